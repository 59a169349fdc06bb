set_option maxHeartbeats 8000000 in
set_option maxRecDepth 100000 in
theorem law_c0 {p : Program} {l : Launch} {e : Env} {s : State} {m : MethodId} {below : List Frame} {meth : Method} {c : Code} {dC : Nat → ClassId} {dI : Nat → Nat → Nat} {cI cL cZ cR cG cH : ClassId} {Z : zT} {kd : Nat → Nat} {L : List Nat} {b Ln : Nat} {xs : Nat → Int32} (hLn : Ln ≤ 384) (C0 : lw_At p s m meth c b Ln xs) (hK : va_K (dC, dI) vwCl (TY6 cI cL cZ cR cG cH) s) (hN : nsW s) (hZ : zW Z L s) (hLs : ∀ q ∈ L, s.heap.size ≤ q) {o1 o2 : Nat} (mo1 : o1 ∈ L) (ko1 : kd o1 = 11) (mo2 : o2 ∈ L) (ko2 : kd o2 = 12) {f : Nat → va_E} (hG : GI (okc cI cL cZ cR cG cH L kd) kd L f) {H : Heap} {locs : List Loc} (hP : va_P (dC, dI) vwCl (va_pl L f) H) (hD : va_D (fun q => q ∈ L) (va_pl L f)) (hS : va_S (fun q => q ∈ L) s.heap H locs) (hI : lawI kd f o1 o2) {i0 : Int32} (bi0 : 0 ≤ i0.toInt ∧ i0.toInt ≤ 378) (hi0 : i0.toInt + 6 ≤ (Ln : Int))
    (kk : ∀ (f1 : Nat → va_E) (H1 : Heap) (locs1 : List Loc), GI (okc cI cL cZ cR cG cH L kd) kd L f1 → va_P (dC, dI) vwCl (va_pl L f1) H1 → va_D (fun q => q ∈ L) (va_pl L f1) → va_S (fun q => q ∈ L) s.heap H1 locs1 → lawI kd f1 o1 o2 → ∀ (ls : Array Slot), lv_has ls 4 [(3, .int i0), (0, .ref b), (1, .ref o1), (2, .ref o2)] → W p l e room_1 s m #[Value.ref b] below meth c H1 locs1 559 115398 (lw_Z below #[Value.ref b] s) (F0 m 933 ls []))
    {ls : Array Slot} (hl : lv_has ls 4 [(3, .int i0), (0, .ref b), (1, .ref o1), (2, .ref o2)]) : W p l e room_1 s m #[Value.ref b] below meth c H locs 559 115398 (lw_Z below #[Value.ref b] s) (F0 m 164 ls []) := by
  obtain ⟨hx, hb, hr, hml, hown0, hts, hX, hbl, hlocks, hgv⟩ := C0
  have hown : s.vm.findClass RL = some m.cls := hown0
  have hU : ∀ w ∈ wsU, w.before #[Value.ref b] s = true := fun w h => hts w (wsU_in w h)
  have hbA : ¬ (fun q => q ∈ L) b := fun h => absurd (hLs b h) (Nat.not_le.mpr hbl)
  obtain ⟨hxtr0, hxtr1, hxtr2, hxtr3, hxtr4, hxtr5, hxtr6, hx29, hxtp, hxim⟩ := hI
  have hrr11_2 : ∀ b, kd b = 11 → fldR (f b) 2 = fldR (f b) 2 := fun _ _ => rfl
  have hrr11_3 : ∀ b, kd b = 11 → fldR (f b) 3 = fldR (f b) 3 := fun _ _ => rfl
  have hrr11_5 : ∀ b, kd b = 11 → fldR (f b) 5 = fldR (f b) 5 := fun _ _ => rfl
  have hrr11_6 : ∀ b, kd b = 11 → fldR (f b) 6 = fldR (f b) 6 := fun _ _ => rfl
  have hrr11_7 : ∀ b, kd b = 11 → fldR (f b) 7 = fldR (f b) 7 := fun _ _ => rfl
  have hrr11_9 : ∀ b, kd b = 11 → fldR (f b) 9 = fldR (f b) 9 := fun _ _ => rfl
  have hrr11_10 : ∀ b, kd b = 11 → fldR (f b) 10 = fldR (f b) 10 := fun _ _ => rfl
  have hrr11_16 : ∀ b, kd b = 11 → fldR (f b) 16 = fldR (f b) 16 := fun _ _ => rfl
  have hrr3_0 : ∀ b, kd b = 3 → fldR (f b) 0 = fldR (f b) 0 := fun _ _ => rfl
  have hrr3_3 : ∀ b, kd b = 3 → fldR (f b) 3 = fldR (f b) 3 := fun _ _ => rfl
  have hrA12 : ∀ b, kd b = 12 → ∀ j, fldR (f b) j = fldR (f b) j := fun _ _ _ => rfl
  obtain ⟨a_2, v_3, a_4, a_5, a_6, a_7, a_8, a_9, v_10, a_11, a_12, a_13, v_14, v_15, a_16, v_17, a_18, a_19, v_20, hfo_1, ⟨ma_2, ka_2⟩, bv_3, ⟨ma_4, ka_4⟩, ⟨ma_5, ka_5⟩, ⟨ma_6, ka_6⟩, ⟨ma_7, ka_7⟩, ⟨ma_8, ka_8⟩, ⟨ma_9, ka_9⟩, bv_10, ⟨ma_11, ka_11⟩, ⟨ma_12, ka_12⟩, ⟨ma_13, ka_13⟩, bv_14, ⟨ma_16, ka_16⟩, bv_17, ⟨ma_18, ka_18⟩, ⟨ma_19, ka_19⟩⟩ := un_11 (hG _ mo1) ko1
  have bv_15 : ((-2147483648) ≤ v_15.toInt ∧ v_15.toInt ≤ 2147483647) := ⟨i32_lo _, i32_hi _⟩
  have bv_20 : ((-2147483648) ≤ v_20.toInt ∧ v_20.toInt ≤ 2147483647) := ⟨i32_lo _, i32_hi _⟩
  obtain ⟨a_21, a_22, a_23, v_24, a_25, v_26, v_27, v_28, v_29, v_30, v_31, v_32, v_33, v_34, v_35, a_36, a_37, a_38, a_39, a_40, a_41, a_42, a_43, v_44, v_45, v_46, v_47, v_48, a_49, v_50, a_51, a_52, v_53, v_54, a_55, v_56, a_57, a_58, v_59, v_60, a_61, a_62, a_63, v_64, a_65, a_66, a_67, a_68, a_69, a_70, a_71, a_72, a_73, v_74, v_75, a_76, hfo_77, fa_78⟩ := un12 (hG _ mo2) ko2
  have bv_24 : (0 ≤ v_24.toInt ∧ v_24.toInt ≤ 1) := fa12_3 fa_78
  have bv_26 : (0 ≤ v_26.toInt ∧ v_26.toInt ≤ 600) := fa12_5 fa_78
  have bv_50 : (0 ≤ v_50.toInt ∧ v_50.toInt ≤ 201) := fa12_29 fa_78
  have hT0 := hxtr0 a_5 (by rw [hfo_1]; rfl)
  have hT1 := hxtr1 a_8 (by rw [hfo_1]; rfl)
  obtain ⟨a_80, a_81, a_82, a_83, a_84, v_85, v_86, v_87, v_88, v_89, v_90, v_91, a_92, a_93, a_94, v_95, a_96, a_97, hfo_79, ⟨ma_80, ka_80⟩, ⟨ma_81, ka_81⟩, ⟨ma_82, ka_82⟩, ⟨ma_83, ka_83⟩, ⟨ma_84, ka_84⟩, bv_85, bv_86, bv_87, ⟨ma_92, ka_92⟩, ⟨ma_93, ka_93⟩, ⟨ma_94, ka_94⟩, bv_95, ⟨ma_96, ka_96⟩, ⟨ma_97, ka_97⟩⟩ := un_3 (hG _ ma_4) ka_4
  have bv_88 : ((-2147483648) ≤ v_88.toInt ∧ v_88.toInt ≤ 2147483647) := ⟨i32_lo _, i32_hi _⟩
  have bv_89 : ((-2147483648) ≤ v_89.toInt ∧ v_89.toInt ≤ 2147483647) := ⟨i32_lo _, i32_hi _⟩
  have bv_90 : ((-2147483648) ≤ v_90.toInt ∧ v_90.toInt ≤ 2147483647) := ⟨i32_lo _, i32_hi _⟩
  have bv_91 : ((-2147483648) ≤ v_91.toInt ∧ v_91.toInt ≤ 2147483647) := ⟨i32_lo _, i32_hi _⟩
  have hT2 := hxtr2 a_4 a_83 (by rw [hfo_1]; rfl) (by rw [hfo_79]; rfl)
  have hT3 := hxtr3
  have hT4 := hxtr4
  have hT5 := hxtr5
  have hT6 := hxtr6
  have h29 := hx29 v_50 (by rw [hfo_77]; rfl)
  have htp := hxtp v_3 v_26 (by rw [hfo_1]; rfl) (by rw [hfo_77]; rfl)
  have him := hxim v_10 v_24 (by rw [hfo_1]; rfl) (by rw [hfo_77]; rfl)
  refine lv_aload_n hx hb dL_law_164 rfl (lv_at hl 2 rfl) ?_
  refine lv_aload_n hx hb dL_law_165 rfl (lv_at hl 1 rfl) ?_
  refine lv_iload_n hx hb dL_law_166 rfl (lv_at hl 0 rfl) ?_
  refine lv_iconst (v := 1) hx hb dL_law_167 (by decide) ?_
  refine lv_iadd hx hb dL_law_168 ?_
  refine lv_topi (fun x_98 ex_98 => ?_)
  have hx_98 : x_98.toInt = i0.toInt + 1 := by rw [ex_98, ad_I (by rw [ti_1]; omega) (by rw [ti_1]; omega), ti_1]
  have bx_98 : (1 ≤ x_98.toInt ∧ x_98.toInt ≤ 379) := by constructor <;> omega
  refine va_sld hx hb hX hbl hbA hS (vp_in_iff.mpr (by constructor <;> omega)) dL_law_169 ?_
  refine lv_topi (fun x_99 ex_99 => ?_)
  have bx_99 : ((-2147483648) ≤ x_99.toInt ∧ x_99.toInt ≤ 2147483647) := ⟨i32_lo _, i32_hi _⟩
  refine lv_aload_n hx hb dL_law_170 rfl (lv_at hl 1 rfl) ?_
  refine lv_iload_n hx hb dL_law_171 rfl (lv_at hl 0 rfl) ?_
  refine lv_iconst (v := 2) hx hb dL_law_172 (by decide) ?_
  refine lv_iadd hx hb dL_law_173 ?_
  refine lv_topi (fun x_100 ex_100 => ?_)
  have hx_100 : x_100.toInt = i0.toInt + 2 := by rw [ex_100, ad_I (by rw [ti_2]; omega) (by rw [ti_2]; omega), ti_2]
  have bx_100 : (2 ≤ x_100.toInt ∧ x_100.toInt ≤ 380) := by constructor <;> omega
  refine va_sld hx hb hX hbl hbA hS (vp_in_iff.mpr (by constructor <;> omega)) dL_law_174 ?_
  refine lv_topi (fun x_101 ex_101 => ?_)
  have bx_101 : ((-2147483648) ≤ x_101.toInt ∧ x_101.toInt ≤ 2147483647) := ⟨i32_lo _, i32_hi _⟩
  refine lv_aload_n hx hb dL_law_175 rfl (lv_at hl 1 rfl) ?_
  refine lv_iload_n hx hb dL_law_176 rfl (lv_at hl 0 rfl) ?_
  refine lv_iconst (v := 3) hx hb dL_law_177 (by decide) ?_
  refine lv_iadd hx hb dL_law_178 ?_
  refine lv_topi (fun x_102 ex_102 => ?_)
  have hx_102 : x_102.toInt = i0.toInt + 3 := by rw [ex_102, ad_I (by rw [ti_3]; omega) (by rw [ti_3]; omega), ti_3]
  have bx_102 : (3 ≤ x_102.toInt ∧ x_102.toInt ≤ 381) := by constructor <;> omega
  refine va_sld hx hb hX hbl hbA hS (vp_in_iff.mpr (by constructor <;> omega)) dL_law_179 ?_
  refine lv_topi (fun x_103 ex_103 => ?_)
  have bx_103 : ((-2147483648) ≤ x_103.toInt ∧ x_103.toInt ≤ 2147483647) := ⟨i32_lo _, i32_hi _⟩
  refine lv_aload_n hx hb dL_law_180 rfl (lv_at hl 1 rfl) ?_
  refine lv_iload_n hx hb dL_law_181 rfl (lv_at hl 0 rfl) ?_
  refine lv_iconst (v := 4) hx hb dL_law_182 (by decide) ?_
  refine lv_iadd hx hb dL_law_183 ?_
  refine lv_topi (fun x_104 ex_104 => ?_)
  have hx_104 : x_104.toInt = i0.toInt + 4 := by rw [ex_104, ad_I (by rw [ti_4]; omega) (by rw [ti_4]; omega), ti_4]
  have bx_104 : (4 ≤ x_104.toInt ∧ x_104.toInt ≤ 382) := by constructor <;> omega
  refine va_sld hx hb hX hbl hbA hS (vp_in_iff.mpr (by constructor <;> omega)) dL_law_184 ?_
  refine lv_topi (fun x_105 ex_105 => ?_)
  have bx_105 : ((-2147483648) ≤ x_105.toInt ∧ x_105.toInt ≤ 2147483647) := ⟨i32_lo _, i32_hi _⟩
  refine lv_aload_n hx hb dL_law_185 rfl (lv_at hl 1 rfl) ?_
  refine lv_iload_n hx hb dL_law_186 rfl (lv_at hl 0 rfl) ?_
  refine lv_iconst (v := 5) hx hb dL_law_187 (by decide) ?_
  refine lv_iadd hx hb dL_law_188 ?_
  refine lv_topi (fun x_106 ex_106 => ?_)
  have hx_106 : x_106.toInt = i0.toInt + 5 := by rw [ex_106, ad_I (by rw [ti_5]; omega) (by rw [ti_5]; omega), ti_5]
  have bx_106 : (5 ≤ x_106.toInt ∧ x_106.toInt ≤ 383) := by constructor <;> omega
  refine va_sld hx hb hX hbl hbA hS (vp_in_iff.mpr (by constructor <;> omega)) dL_law_189 ?_
  refine lv_topi (fun x_107 ex_107 => ?_)
  have bx_107 : ((-2147483648) ≤ x_107.toInt ∧ x_107.toInt ≤ 2147483647) := ⟨i32_lo _, i32_hi _⟩
  refine tk_ViP (As := [.int x_99, .int x_101, .int x_103, .int x_105, .int x_107]) (rest := []) (n := 5) hx hb hml hown hU hN hZ (s_X11_feed_k11 l (dC, dI) cI cL cZ cR cG cH Z kd L f hG o1 mo1 ko1 x_99 x_101 x_103 x_105 x_107) wd_205 wd_206 wd_207 wd_2 wd_208 (by decide +kernel) ⟨Nat.le_of_ble_eq_true rfl, Nat.le_of_ble_eq_true rfl⟩ hK hP hD hS mo1 hfo_1 11 rfl rfl rfl hl.1 rfl (Nat.le_of_ble_eq_true rfl) dL_law_190 ⟨Nat.le_of_ble_eq_true rfl, Nat.le_of_ble_eq_true rfl⟩ (fun x_108 f_109 H locs hw hP hD hS => ?_)
  obtain ⟨hG, bx_108, hkc_110, hfc_111, hrc_112, hrc_113, hrc_114, hrc_115, hrc_116, hrc_117, hrc_118, hrc_119, hpost_120⟩ := hw
  have hfo_122 : f_109 o2 = .inr (12, [.ref a_21, .ref a_22, .ref a_23, .int v_24, .ref a_25, .int v_26, .int v_27, .int v_28, .int v_29, .int v_30, .int v_31, .int v_32, .int v_33, .int v_34, .int v_35, .ref a_36, .ref a_37, .ref a_38, .ref a_39, .ref a_40, .ref a_41, .ref a_42, .ref a_43, .int v_44, .int v_45, .int v_46, .int v_47, .int v_48, .ref a_49, .int v_50, .ref a_51, .ref a_52, .int v_53, .int v_54, .ref a_55, .int v_56, .ref a_57, .ref a_58, .int v_59, .int v_60, .ref a_61, .ref a_62, .ref a_63, .int v_64, .ref a_65, .ref a_66, .ref a_67, .ref a_68, .ref a_69, .ref a_70, .ref a_71, .ref a_72, .ref a_73, .int v_74, .int v_75, .ref a_76]) := by rw [hkc_110 o2 (by rw [ko2]; decide) (by rw [ko2]; decide)]; exact hfo_77
  have hfo_123 : f_109 a_4 = .inr (3, [.ref a_80, .ref a_81, .ref a_82, .ref a_83, .ref a_84, .int v_85, .int v_86, .int v_87, .int v_88, .int v_89, .int v_90, .int v_91, .ref a_92, .ref a_93, .ref a_94, .int v_95, .ref a_96, .ref a_97]) := by rw [hkc_110 a_4 (by rw [ka_4]; decide) (by rw [ka_4]; decide)]; exact hfo_79
  have hrr11_2 : ∀ b, kd b = 11 → fldR (f_109 b) 2 = fldR (f b) 2 := fun b kb => (hrc_112 b kb).trans (hrr11_2 b kb)
  have hrr11_3 : ∀ b, kd b = 11 → fldR (f_109 b) 3 = fldR (f b) 3 := fun b kb => (hrc_113 b kb).trans (hrr11_3 b kb)
  have hrr11_5 : ∀ b, kd b = 11 → fldR (f_109 b) 5 = fldR (f b) 5 := fun b kb => (hrc_114 b kb).trans (hrr11_5 b kb)
  have hrr11_6 : ∀ b, kd b = 11 → fldR (f_109 b) 6 = fldR (f b) 6 := fun b kb => (hrc_115 b kb).trans (hrr11_6 b kb)
  have hrr11_7 : ∀ b, kd b = 11 → fldR (f_109 b) 7 = fldR (f b) 7 := fun b kb => (hrc_116 b kb).trans (hrr11_7 b kb)
  have hrr11_9 : ∀ b, kd b = 11 → fldR (f_109 b) 9 = fldR (f b) 9 := fun b kb => (hrc_117 b kb).trans (hrr11_9 b kb)
  have hrr11_10 : ∀ b, kd b = 11 → fldR (f_109 b) 10 = fldR (f b) 10 := fun b kb => (hrc_118 b kb).trans (hrr11_10 b kb)
  have hrr11_16 : ∀ b, kd b = 11 → fldR (f_109 b) 16 = fldR (f b) 16 := fun b kb => (hrc_119 b kb).trans (hrr11_16 b kb)
  have hrr3_0 : ∀ b, kd b = 3 → fldR (f_109 b) 0 = fldR (f b) 0 := fun b kb => (congrArg (fun x => fldR x 0) (hkc_110 b (by rw [kb]; decide) (by rw [kb]; decide))).trans (hrr3_0 b kb)
  have hrr3_3 : ∀ b, kd b = 3 → fldR (f_109 b) 3 = fldR (f b) 3 := fun b kb => (congrArg (fun x => fldR x 3) (hkc_110 b (by rw [kb]; decide) (by rw [kb]; decide))).trans (hrr3_3 b kb)
  have hrA12 : ∀ b, kd b = 12 → ∀ j, fldR (f_109 b) j = fldR (f b) j := fun b kb j => (congrArg (fun x => fldR x j) (hkc_110 b (by rw [kb]; decide) (by rw [kb]; decide))).trans (hrA12 b kb j)
  have hT0 : trel kd 7 508 510 515 4 f_109 a_5 := hT0.keep (fun b q => hkc_110 b (by rw [q]; decide) (by rw [q]; decide)) (fun b q => hkc_110 b (by rw [q]; decide) (by rw [q]; decide)) (fun b q => hkc_110 b (by rw [q]; decide) (by rw [q]; decide)) (fun b q => hkc_110 b (by rw [q]; decide) (by rw [q]; decide)) (fun b q => congrArg (fun x => fldI x 1) (hkc_110 b (by rw [q]; decide) (by rw [q]; decide)))
  have hT1 : trel kd 107 549 551 556 104 f_109 a_8 := hT1.keep (fun b q => hkc_110 b (by rw [q]; decide) (by rw [q]; decide)) (fun b q => hkc_110 b (by rw [q]; decide) (by rw [q]; decide)) (fun b q => hkc_110 b (by rw [q]; decide) (by rw [q]; decide)) (fun b q => hkc_110 b (by rw [q]; decide) (by rw [q]; decide)) (fun b q => congrArg (fun x => fldI x 1) (hkc_110 b (by rw [q]; decide) (by rw [q]; decide)))
  have hT2 : drel kd 1 521 522 f_109 a_83 := hT2.keep (fun b q => congrArg (fun x => fldI x 5) (hkc_110 b (by rw [q]; decide) (by rw [q]; decide))) (fun b q => congrArg (fun x => fldR x 0) (hkc_110 b (by rw [q]; decide) (by rw [q]; decide))) (fun b q => congrArg (fun x => fldR x 1) (hkc_110 b (by rw [q]; decide) (by rw [q]; decide))) (fun b q => hkc_110 b (by rw [q]; decide) (by rw [q]; decide)) (fun b q => hkc_110 b (by rw [q]; decide) (by rw [q]; decide))
  have hT3 : urel kd 5 3 6 7 f_109 o1 := hT3.keep (fun b q => hrc_114 b q) (fun b q => hrc_113 b q) (fun b q => congrArg (fun x => fldI x 0) (hkc_110 b (by rw [q]; decide) (by rw [q]; decide))) (fun b q => congrArg (fun x => fldI x 12) (hkc_110 b (by rw [q]; decide) (by rw [q]; decide)))
  have hT4 : urel kd 7 6 106 107 f_109 o1 := hT4.keep (fun b q => hrc_116 b q) (fun b q => hrc_115 b q) (fun b q => congrArg (fun x => fldI x 0) (hkc_110 b (by rw [q]; decide) (by rw [q]; decide))) (fun b q => congrArg (fun x => fldI x 12) (hkc_110 b (by rw [q]; decide) (by rw [q]; decide)))
  have hT5 : alrel kd f_109 o1 := hT5.keep (fun b q => hrc_112 b q) (fun b q => hrc_113 b q) (fun b q => congrArg (fun x => fldR x 0) (hkc_110 b (by rw [q]; decide) (by rw [q]; decide)))
  have hT6 : srel kd 592 f_109 o2 := hT6.keep (fun b q => congrArg (fun x => fldR x 30) (hkc_110 b (by rw [q]; decide) (by rw [q]; decide))) (fun b q => congrArg (fun x => fldI x 32) (hkc_110 b (by rw [q]; decide) (by rw [q]; decide))) (fun b q => congrArg (fun x => fldI x 33) (hkc_110 b (by rw [q]; decide) (by rw [q]; decide))) (fun b q => hkc_110 b (by rw [q]; decide) (by rw [q]; decide))
  obtain ⟨a_125, v_126, a_127, a_128, a_129, a_130, a_131, a_132, v_133, a_134, a_135, a_136, v_137, v_138, a_139, v_140, a_141, a_142, v_143, hfo_124, ⟨ma_125, ka_125⟩, bv_126, ⟨ma_127, ka_127⟩, ⟨ma_128, ka_128⟩, ⟨ma_129, ka_129⟩, ⟨ma_130, ka_130⟩, ⟨ma_131, ka_131⟩, ⟨ma_132, ka_132⟩, bv_133, ⟨ma_134, ka_134⟩, ⟨ma_135, ka_135⟩, ⟨ma_136, ka_136⟩, bv_137, ⟨ma_139, ka_139⟩, bv_140, ⟨ma_141, ka_141⟩, ⟨ma_142, ka_142⟩⟩ := un_11 (hG _ mo1) ko1
  have bv_138 : ((-2147483648) ≤ v_138.toInt ∧ v_138.toInt ≤ 2147483647) := ⟨i32_lo _, i32_hi _⟩
  have bv_143 : ((-2147483648) ≤ v_143.toInt ∧ v_143.toInt ≤ 2147483647) := ⟨i32_lo _, i32_hi _⟩
  obtain rfl : a_4 = a_127 := by have hk9 := hrr11_2 o1 ko1; rw [hfo_124, hfo_1] at hk9; exact (Option.some.inj hk9).symm
  obtain rfl : a_5 = a_128 := by have hk9 := hrr11_3 o1 ko1; rw [hfo_124, hfo_1] at hk9; exact (Option.some.inj hk9).symm
  obtain rfl : a_7 = a_130 := by have hk9 := hrr11_5 o1 ko1; rw [hfo_124, hfo_1] at hk9; exact (Option.some.inj hk9).symm
  obtain rfl : a_8 = a_131 := by have hk9 := hrr11_6 o1 ko1; rw [hfo_124, hfo_1] at hk9; exact (Option.some.inj hk9).symm
  obtain rfl : a_9 = a_132 := by have hk9 := hrr11_7 o1 ko1; rw [hfo_124, hfo_1] at hk9; exact (Option.some.inj hk9).symm
  obtain rfl : a_11 = a_134 := by have hk9 := hrr11_9 o1 ko1; rw [hfo_124, hfo_1] at hk9; exact (Option.some.inj hk9).symm
  obtain rfl : a_12 = a_135 := by have hk9 := hrr11_10 o1 ko1; rw [hfo_124, hfo_1] at hk9; exact (Option.some.inj hk9).symm
  obtain rfl : a_18 = a_141 := by have hk9 := hrr11_16 o1 ko1; rw [hfo_124, hfo_1] at hk9; exact (Option.some.inj hk9).symm
  obtain rfl : v_10 = v_133 := by have hk9 := hfc_111 o1 ko1; rw [hfo_124, hfo_1] at hk9; exact (Option.some.inj hk9).symm
  have hqhpost_120 := hpost_120 v_3 v_126 (by rw [hfo_1]; rfl) (by rw [hfo_124]; rfl)
  refine lv_pop hx hb dL_law_193 rfl ?_
  refine lv_aload_n hx hb dL_law_194 rfl (lv_at hl 3 rfl) ?_
  refine lv_aload_n hx hb dL_law_195 rfl (lv_at hl 1 rfl) ?_
  refine lv_iload_n hx hb dL_law_196 rfl (lv_at hl 0 rfl) ?_
  refine lv_iconst (v := 1) hx hb dL_law_197 (by decide) ?_
  refine lv_iadd hx hb dL_law_198 ?_
  refine lv_topi (fun x_144 ex_144 => ?_)
  have hx_144 : x_144.toInt = i0.toInt + 1 := by rw [ex_144, ad_I (by rw [ti_1]; omega) (by rw [ti_1]; omega), ti_1]
  have bx_144 : (1 ≤ x_144.toInt ∧ x_144.toInt ≤ 379) := by constructor <;> omega
  refine va_sld hx hb hX hbl hbA hS (vp_in_iff.mpr (by constructor <;> omega)) dL_law_199 ?_
  refine lv_topi (fun x_145 ex_145 => ?_)
  have bx_145 : ((-2147483648) ≤ x_145.toInt ∧ x_145.toInt ≤ 2147483647) := ⟨i32_lo _, i32_hi _⟩
  have hsmx_145 : x_145.toInt = x_99.toInt := by rw [ex_145, ex_144, ex_99, ex_98]
  refine lv_aload_n hx hb dL_law_200 rfl (lv_at hl 1 rfl) ?_
  refine lv_iload_n hx hb dL_law_201 rfl (lv_at hl 0 rfl) ?_
  refine lv_iconst (v := 2) hx hb dL_law_202 (by decide) ?_
  refine lv_iadd hx hb dL_law_203 ?_
  refine lv_topi (fun x_146 ex_146 => ?_)
  have hx_146 : x_146.toInt = i0.toInt + 2 := by rw [ex_146, ad_I (by rw [ti_2]; omega) (by rw [ti_2]; omega), ti_2]
  have bx_146 : (2 ≤ x_146.toInt ∧ x_146.toInt ≤ 380) := by constructor <;> omega
  refine va_sld hx hb hX hbl hbA hS (vp_in_iff.mpr (by constructor <;> omega)) dL_law_204 ?_
  refine lv_topi (fun x_147 ex_147 => ?_)
  have bx_147 : ((-2147483648) ≤ x_147.toInt ∧ x_147.toInt ≤ 2147483647) := ⟨i32_lo _, i32_hi _⟩
  have hsmx_147 : x_147.toInt = x_101.toInt := by rw [ex_147, ex_146, ex_101, ex_100]
  refine lv_aload_n hx hb dL_law_205 rfl (lv_at hl 1 rfl) ?_
  refine lv_iload_n hx hb dL_law_206 rfl (lv_at hl 0 rfl) ?_
  refine lv_iconst (v := 3) hx hb dL_law_207 (by decide) ?_
  refine lv_iadd hx hb dL_law_208 ?_
  refine lv_topi (fun x_148 ex_148 => ?_)
  have hx_148 : x_148.toInt = i0.toInt + 3 := by rw [ex_148, ad_I (by rw [ti_3]; omega) (by rw [ti_3]; omega), ti_3]
  have bx_148 : (3 ≤ x_148.toInt ∧ x_148.toInt ≤ 381) := by constructor <;> omega
  refine va_sld hx hb hX hbl hbA hS (vp_in_iff.mpr (by constructor <;> omega)) dL_law_209 ?_
  refine lv_topi (fun x_149 ex_149 => ?_)
  have bx_149 : ((-2147483648) ≤ x_149.toInt ∧ x_149.toInt ≤ 2147483647) := ⟨i32_lo _, i32_hi _⟩
  have hsmx_149 : x_149.toInt = x_103.toInt := by rw [ex_149, ex_148, ex_103, ex_102]
  refine lv_aload_n hx hb dL_law_210 rfl (lv_at hl 1 rfl) ?_
  refine lv_iload_n hx hb dL_law_211 rfl (lv_at hl 0 rfl) ?_
  refine lv_iconst (v := 4) hx hb dL_law_212 (by decide) ?_
  refine lv_iadd hx hb dL_law_213 ?_
  refine lv_topi (fun x_150 ex_150 => ?_)
  have hx_150 : x_150.toInt = i0.toInt + 4 := by rw [ex_150, ad_I (by rw [ti_4]; omega) (by rw [ti_4]; omega), ti_4]
  have bx_150 : (4 ≤ x_150.toInt ∧ x_150.toInt ≤ 382) := by constructor <;> omega
  refine va_sld hx hb hX hbl hbA hS (vp_in_iff.mpr (by constructor <;> omega)) dL_law_214 ?_
  refine lv_topi (fun x_151 ex_151 => ?_)
  have bx_151 : ((-2147483648) ≤ x_151.toInt ∧ x_151.toInt ≤ 2147483647) := ⟨i32_lo _, i32_hi _⟩
  have hsmx_151 : x_151.toInt = x_105.toInt := by rw [ex_151, ex_150, ex_105, ex_104]
  refine lv_aload_n hx hb dL_law_215 rfl (lv_at hl 1 rfl) ?_
  refine lv_iload_n hx hb dL_law_216 rfl (lv_at hl 0 rfl) ?_
  refine lv_iconst (v := 5) hx hb dL_law_217 (by decide) ?_
  refine lv_iadd hx hb dL_law_218 ?_
  refine lv_topi (fun x_152 ex_152 => ?_)
  have hx_152 : x_152.toInt = i0.toInt + 5 := by rw [ex_152, ad_I (by rw [ti_5]; omega) (by rw [ti_5]; omega), ti_5]
  have bx_152 : (5 ≤ x_152.toInt ∧ x_152.toInt ≤ 383) := by constructor <;> omega
  refine va_sld hx hb hX hbl hbA hS (vp_in_iff.mpr (by constructor <;> omega)) dL_law_219 ?_
  refine lv_topi (fun x_153 ex_153 => ?_)
  have bx_153 : ((-2147483648) ≤ x_153.toInt ∧ x_153.toInt ≤ 2147483647) := ⟨i32_lo _, i32_hi _⟩
  have hsmx_153 : x_153.toInt = x_107.toInt := by rw [ex_153, ex_152, ex_107, ex_106]
  refine tk_ViP (As := [.int x_145, .int x_147, .int x_149, .int x_151, .int x_153]) (rest := []) (n := 5) hx hb hml hown hU hN hZ (s_X12_feed_k12 l (dC, dI) cI cL cZ cR cG cH Z kd L f_109 hG o2 mo2 ko2 x_145 x_147 x_149 x_151 x_153) wd_214 wd_215 wd_216 wd_5 wd_217 (by decide +kernel) ⟨Nat.le_of_ble_eq_true rfl, Nat.le_of_ble_eq_true rfl⟩ hK hP hD hS mo2 hfo_122 12 rfl rfl rfl hl.1 rfl (Nat.le_of_ble_eq_true rfl) dL_law_220 ⟨Nat.le_of_ble_eq_true rfl, Nat.le_of_ble_eq_true rfl⟩ (fun x_154 f_155 H locs hw hP hD hS => ?_)
  obtain ⟨hG, bx_154, hkc_156, hra_157, hfa_158, hpost_159⟩ := hw
  have hfo_161 : f_155 a_4 = .inr (3, [.ref a_80, .ref a_81, .ref a_82, .ref a_83, .ref a_84, .int v_85, .int v_86, .int v_87, .int v_88, .int v_89, .int v_90, .int v_91, .ref a_92, .ref a_93, .ref a_94, .int v_95, .ref a_96, .ref a_97]) := by rw [hkc_156 a_4 (by rw [ka_4]; decide) (by rw [ka_4]; decide)]; exact hfo_123
  have hfo_162 : f_155 o1 = .inr (11, [.ref a_125, .int v_126, .ref a_4, .ref a_5, .ref a_129, .ref a_7, .ref a_8, .ref a_9, .int v_10, .ref a_11, .ref a_12, .ref a_136, .int v_137, .int v_138, .ref a_139, .int v_140, .ref a_18, .ref a_142, .int v_143]) := by rw [hkc_156 o1 (by rw [ko1]; decide) (by rw [ko1]; decide)]; exact hfo_124
  have hrr11_2 : ∀ b, kd b = 11 → fldR (f_155 b) 2 = fldR (f b) 2 := fun b kb => (congrArg (fun x => fldR x 2) (hkc_156 b (by rw [kb]; decide) (by rw [kb]; decide))).trans (hrr11_2 b kb)
  have hrr11_3 : ∀ b, kd b = 11 → fldR (f_155 b) 3 = fldR (f b) 3 := fun b kb => (congrArg (fun x => fldR x 3) (hkc_156 b (by rw [kb]; decide) (by rw [kb]; decide))).trans (hrr11_3 b kb)
  have hrr11_5 : ∀ b, kd b = 11 → fldR (f_155 b) 5 = fldR (f b) 5 := fun b kb => (congrArg (fun x => fldR x 5) (hkc_156 b (by rw [kb]; decide) (by rw [kb]; decide))).trans (hrr11_5 b kb)
  have hrr11_6 : ∀ b, kd b = 11 → fldR (f_155 b) 6 = fldR (f b) 6 := fun b kb => (congrArg (fun x => fldR x 6) (hkc_156 b (by rw [kb]; decide) (by rw [kb]; decide))).trans (hrr11_6 b kb)
  have hrr11_7 : ∀ b, kd b = 11 → fldR (f_155 b) 7 = fldR (f b) 7 := fun b kb => (congrArg (fun x => fldR x 7) (hkc_156 b (by rw [kb]; decide) (by rw [kb]; decide))).trans (hrr11_7 b kb)
  have hrr11_9 : ∀ b, kd b = 11 → fldR (f_155 b) 9 = fldR (f b) 9 := fun b kb => (congrArg (fun x => fldR x 9) (hkc_156 b (by rw [kb]; decide) (by rw [kb]; decide))).trans (hrr11_9 b kb)
  have hrr11_10 : ∀ b, kd b = 11 → fldR (f_155 b) 10 = fldR (f b) 10 := fun b kb => (congrArg (fun x => fldR x 10) (hkc_156 b (by rw [kb]; decide) (by rw [kb]; decide))).trans (hrr11_10 b kb)
  have hrr11_16 : ∀ b, kd b = 11 → fldR (f_155 b) 16 = fldR (f b) 16 := fun b kb => (congrArg (fun x => fldR x 16) (hkc_156 b (by rw [kb]; decide) (by rw [kb]; decide))).trans (hrr11_16 b kb)
  have hrr3_0 : ∀ b, kd b = 3 → fldR (f_155 b) 0 = fldR (f b) 0 := fun b kb => (congrArg (fun x => fldR x 0) (hkc_156 b (by rw [kb]; decide) (by rw [kb]; decide))).trans (hrr3_0 b kb)
  have hrr3_3 : ∀ b, kd b = 3 → fldR (f_155 b) 3 = fldR (f b) 3 := fun b kb => (congrArg (fun x => fldR x 3) (hkc_156 b (by rw [kb]; decide) (by rw [kb]; decide))).trans (hrr3_3 b kb)
  have hrA12 : ∀ b, kd b = 12 → ∀ j, fldR (f_155 b) j = fldR (f b) j := fun b kb j => (hra_157 b kb j).trans (hrA12 b kb j)
  have hT0 : trel kd 7 508 510 515 4 f_155 a_5 := hT0.keep (fun b q => hkc_156 b (by rw [q]; decide) (by rw [q]; decide)) (fun b q => hkc_156 b (by rw [q]; decide) (by rw [q]; decide)) (fun b q => hkc_156 b (by rw [q]; decide) (by rw [q]; decide)) (fun b q => hkc_156 b (by rw [q]; decide) (by rw [q]; decide)) (fun b q => congrArg (fun x => fldI x 1) (hkc_156 b (by rw [q]; decide) (by rw [q]; decide)))
  have hT1 : trel kd 107 549 551 556 104 f_155 a_8 := hT1.keep (fun b q => hkc_156 b (by rw [q]; decide) (by rw [q]; decide)) (fun b q => hkc_156 b (by rw [q]; decide) (by rw [q]; decide)) (fun b q => hkc_156 b (by rw [q]; decide) (by rw [q]; decide)) (fun b q => hkc_156 b (by rw [q]; decide) (by rw [q]; decide)) (fun b q => congrArg (fun x => fldI x 1) (hkc_156 b (by rw [q]; decide) (by rw [q]; decide)))
  have hT2 : drel kd 1 521 522 f_155 a_83 := hT2.keep (fun b q => congrArg (fun x => fldI x 5) (hkc_156 b (by rw [q]; decide) (by rw [q]; decide))) (fun b q => congrArg (fun x => fldR x 0) (hkc_156 b (by rw [q]; decide) (by rw [q]; decide))) (fun b q => congrArg (fun x => fldR x 1) (hkc_156 b (by rw [q]; decide) (by rw [q]; decide))) (fun b q => hkc_156 b (by rw [q]; decide) (by rw [q]; decide)) (fun b q => hkc_156 b (by rw [q]; decide) (by rw [q]; decide))
  have hT3 : urel kd 5 3 6 7 f_155 o1 := hT3.keep (fun b q => congrArg (fun x => fldR x 5) (hkc_156 b (by rw [q]; decide) (by rw [q]; decide))) (fun b q => congrArg (fun x => fldR x 3) (hkc_156 b (by rw [q]; decide) (by rw [q]; decide))) (fun b q => congrArg (fun x => fldI x 0) (hkc_156 b (by rw [q]; decide) (by rw [q]; decide))) (fun b q => congrArg (fun x => fldI x 12) (hkc_156 b (by rw [q]; decide) (by rw [q]; decide)))
  have hT4 : urel kd 7 6 106 107 f_155 o1 := hT4.keep (fun b q => congrArg (fun x => fldR x 7) (hkc_156 b (by rw [q]; decide) (by rw [q]; decide))) (fun b q => congrArg (fun x => fldR x 6) (hkc_156 b (by rw [q]; decide) (by rw [q]; decide))) (fun b q => congrArg (fun x => fldI x 0) (hkc_156 b (by rw [q]; decide) (by rw [q]; decide))) (fun b q => congrArg (fun x => fldI x 12) (hkc_156 b (by rw [q]; decide) (by rw [q]; decide)))
  have hT5 : alrel kd f_155 o1 := hT5.keep (fun b q => congrArg (fun x => fldR x 2) (hkc_156 b (by rw [q]; decide) (by rw [q]; decide))) (fun b q => congrArg (fun x => fldR x 3) (hkc_156 b (by rw [q]; decide) (by rw [q]; decide))) (fun b q => congrArg (fun x => fldR x 0) (hkc_156 b (by rw [q]; decide) (by rw [q]; decide)))
  have hT6 : srel kd 592 f_155 o2 := hT6.keep (fun b q => hra_157 b q 30) (fun b q => hfa_158 b q 32 (by decide)) (fun b q => hfa_158 b q 33 (by decide)) (fun b q => hkc_156 b (by rw [q]; decide) (by rw [q]; decide))
  obtain ⟨v_163, hfo_164, fa_165⟩ := op12_5 hfo_122 (hG _ mo2) ko2 (hra_157 o2 ko2) (hfa_158 o2 ko2)
  have bv_163 : (0 ≤ v_163.toInt ∧ v_163.toInt ≤ 600) := fa12_5 fa_165
  have hqhpost_159 := hpost_159 v_26 v_163 (by rw [hfo_122]; rfl) (by rw [hfo_164]; rfl)
  refine lv_pop hx hb dL_law_223 rfl ?_
  refine lv_goto (tgt := 933) hx hb dL_law_224 (by decide) ?_
  exact kk f_155 _ _ hG hP hD hS ⟨(fun d9 h9 => by rw [hfo_162] at h9; obtain rfl := Option.some.inj h9; exact hT0), (fun d9 h9 => by rw [hfo_162] at h9; obtain rfl := Option.some.inj h9; exact hT1), (fun r9 d9 h8 h9 => by rw [hfo_162] at h8; obtain rfl := Option.some.inj h8; rw [hfo_161] at h9; obtain rfl := Option.some.inj h9; exact hT2), hT3, hT4, hT5, hT6, (fun z9 h9 => by rw [hfo_164] at h9; obtain rfl := Option.some.inj h9; omega), (fun y9 z9 h8 h9 => by rw [hfo_162] at h8; obtain rfl := Option.some.inj h8; rw [hfo_164] at h9; obtain rfl := Option.some.inj h9; omega), (fun y9 z9 h8 h9 => by rw [hfo_162] at h8; obtain rfl := Option.some.inj h8; rw [hfo_164] at h9; obtain rfl := Option.some.inj h9; omega)⟩ ls (lv_sub hl [0, 1, 2, 3] rfl)
set_option maxHeartbeats 8000000 in
set_option maxRecDepth 100000 in
theorem law_c1 {p : Program} {l : Launch} {e : Env} {s : State} {m : MethodId} {below : List Frame} {meth : Method} {c : Code} {dC : Nat → ClassId} {dI : Nat → Nat → Nat} {cI cL cZ cR cG cH : ClassId} {Z : zT} {kd : Nat → Nat} {L : List Nat} {b Ln : Nat} {xs : Nat → Int32} (hLn : Ln ≤ 384) (C0 : lw_At p s m meth c b Ln xs) (hK : va_K (dC, dI) vwCl (TY6 cI cL cZ cR cG cH) s) (hN : nsW s) (hZ : zW Z L s) (hLs : ∀ q ∈ L, s.heap.size ≤ q) {o1 o2 : Nat} (mo1 : o1 ∈ L) (ko1 : kd o1 = 11) (mo2 : o2 ∈ L) (ko2 : kd o2 = 12) {f : Nat → va_E} (hG : GI (okc cI cL cZ cR cG cH L kd) kd L f) {H : Heap} {locs : List Loc} (hP : va_P (dC, dI) vwCl (va_pl L f) H) (hD : va_D (fun q => q ∈ L) (va_pl L f)) (hS : va_S (fun q => q ∈ L) s.heap H locs) (hI : lawI kd f o1 o2) {i0 : Int32} (bi0 : 0 ≤ i0.toInt ∧ i0.toInt ≤ 378) (hi0 : i0.toInt + 6 ≤ (Ln : Int))
    (kk : ∀ (f1 : Nat → va_E) (H1 : Heap) (locs1 : List Loc), GI (okc cI cL cZ cR cG cH L kd) kd L f1 → va_P (dC, dI) vwCl (va_pl L f1) H1 → va_D (fun q => q ∈ L) (va_pl L f1) → va_S (fun q => q ∈ L) s.heap H1 locs1 → lawI kd f1 o1 o2 → ∀ (ls : Array Slot), lv_has ls 4 [(3, .int i0), (0, .ref b), (1, .ref o1), (2, .ref o2)] → W p l e room_1 s m #[Value.ref b] below meth c H1 locs1 559 115398 (lw_Z below #[Value.ref b] s) (F0 m 933 ls []))
    {ls : Array Slot} (hl : lv_has ls 4 [(3, .int i0), (0, .ref b), (1, .ref o1), (2, .ref o2)]) : W p l e room_1 s m #[Value.ref b] below meth c H locs 559 115398 (lw_Z below #[Value.ref b] s) (F0 m 227 ls []) := by
  obtain ⟨hx, hb, hr, hml, hown0, hts, hX, hbl, hlocks, hgv⟩ := C0
  have hown : s.vm.findClass RL = some m.cls := hown0
  have hU : ∀ w ∈ wsU, w.before #[Value.ref b] s = true := fun w h => hts w (wsU_in w h)
  have hbA : ¬ (fun q => q ∈ L) b := fun h => absurd (hLs b h) (Nat.not_le.mpr hbl)
  obtain ⟨hxtr0, hxtr1, hxtr2, hxtr3, hxtr4, hxtr5, hxtr6, hx29, hxtp, hxim⟩ := hI
  have hrr11_2 : ∀ b, kd b = 11 → fldR (f b) 2 = fldR (f b) 2 := fun _ _ => rfl
  have hrr11_3 : ∀ b, kd b = 11 → fldR (f b) 3 = fldR (f b) 3 := fun _ _ => rfl
  have hrr11_5 : ∀ b, kd b = 11 → fldR (f b) 5 = fldR (f b) 5 := fun _ _ => rfl
  have hrr11_6 : ∀ b, kd b = 11 → fldR (f b) 6 = fldR (f b) 6 := fun _ _ => rfl
  have hrr11_7 : ∀ b, kd b = 11 → fldR (f b) 7 = fldR (f b) 7 := fun _ _ => rfl
  have hrr11_9 : ∀ b, kd b = 11 → fldR (f b) 9 = fldR (f b) 9 := fun _ _ => rfl
  have hrr11_10 : ∀ b, kd b = 11 → fldR (f b) 10 = fldR (f b) 10 := fun _ _ => rfl
  have hrr11_16 : ∀ b, kd b = 11 → fldR (f b) 16 = fldR (f b) 16 := fun _ _ => rfl
  have hrr3_0 : ∀ b, kd b = 3 → fldR (f b) 0 = fldR (f b) 0 := fun _ _ => rfl
  have hrr3_3 : ∀ b, kd b = 3 → fldR (f b) 3 = fldR (f b) 3 := fun _ _ => rfl
  have hrA12 : ∀ b, kd b = 12 → ∀ j, fldR (f b) j = fldR (f b) j := fun _ _ _ => rfl
  obtain ⟨a_2, v_3, a_4, a_5, a_6, a_7, a_8, a_9, v_10, a_11, a_12, a_13, v_14, v_15, a_16, v_17, a_18, a_19, v_20, hfo_1, ⟨ma_2, ka_2⟩, bv_3, ⟨ma_4, ka_4⟩, ⟨ma_5, ka_5⟩, ⟨ma_6, ka_6⟩, ⟨ma_7, ka_7⟩, ⟨ma_8, ka_8⟩, ⟨ma_9, ka_9⟩, bv_10, ⟨ma_11, ka_11⟩, ⟨ma_12, ka_12⟩, ⟨ma_13, ka_13⟩, bv_14, ⟨ma_16, ka_16⟩, bv_17, ⟨ma_18, ka_18⟩, ⟨ma_19, ka_19⟩⟩ := un_11 (hG _ mo1) ko1
  have bv_15 : ((-2147483648) ≤ v_15.toInt ∧ v_15.toInt ≤ 2147483647) := ⟨i32_lo _, i32_hi _⟩
  have bv_20 : ((-2147483648) ≤ v_20.toInt ∧ v_20.toInt ≤ 2147483647) := ⟨i32_lo _, i32_hi _⟩
  obtain ⟨a_21, a_22, a_23, v_24, a_25, v_26, v_27, v_28, v_29, v_30, v_31, v_32, v_33, v_34, v_35, a_36, a_37, a_38, a_39, a_40, a_41, a_42, a_43, v_44, v_45, v_46, v_47, v_48, a_49, v_50, a_51, a_52, v_53, v_54, a_55, v_56, a_57, a_58, v_59, v_60, a_61, a_62, a_63, v_64, a_65, a_66, a_67, a_68, a_69, a_70, a_71, a_72, a_73, v_74, v_75, a_76, hfo_77, fa_78⟩ := un12 (hG _ mo2) ko2
  have bv_24 : (0 ≤ v_24.toInt ∧ v_24.toInt ≤ 1) := fa12_3 fa_78
  have bv_26 : (0 ≤ v_26.toInt ∧ v_26.toInt ≤ 600) := fa12_5 fa_78
  have bv_50 : (0 ≤ v_50.toInt ∧ v_50.toInt ≤ 201) := fa12_29 fa_78
  have hT0 := hxtr0 a_5 (by rw [hfo_1]; rfl)
  have hT1 := hxtr1 a_8 (by rw [hfo_1]; rfl)
  obtain ⟨a_80, a_81, a_82, a_83, a_84, v_85, v_86, v_87, v_88, v_89, v_90, v_91, a_92, a_93, a_94, v_95, a_96, a_97, hfo_79, ⟨ma_80, ka_80⟩, ⟨ma_81, ka_81⟩, ⟨ma_82, ka_82⟩, ⟨ma_83, ka_83⟩, ⟨ma_84, ka_84⟩, bv_85, bv_86, bv_87, ⟨ma_92, ka_92⟩, ⟨ma_93, ka_93⟩, ⟨ma_94, ka_94⟩, bv_95, ⟨ma_96, ka_96⟩, ⟨ma_97, ka_97⟩⟩ := un_3 (hG _ ma_4) ka_4
  have bv_88 : ((-2147483648) ≤ v_88.toInt ∧ v_88.toInt ≤ 2147483647) := ⟨i32_lo _, i32_hi _⟩
  have bv_89 : ((-2147483648) ≤ v_89.toInt ∧ v_89.toInt ≤ 2147483647) := ⟨i32_lo _, i32_hi _⟩
  have bv_90 : ((-2147483648) ≤ v_90.toInt ∧ v_90.toInt ≤ 2147483647) := ⟨i32_lo _, i32_hi _⟩
  have bv_91 : ((-2147483648) ≤ v_91.toInt ∧ v_91.toInt ≤ 2147483647) := ⟨i32_lo _, i32_hi _⟩
  have hT2 := hxtr2 a_4 a_83 (by rw [hfo_1]; rfl) (by rw [hfo_79]; rfl)
  have hT3 := hxtr3
  have hT4 := hxtr4
  have hT5 := hxtr5
  have hT6 := hxtr6
  have h29 := hx29 v_50 (by rw [hfo_77]; rfl)
  have htp := hxtp v_3 v_26 (by rw [hfo_1]; rfl) (by rw [hfo_77]; rfl)
  have him := hxim v_10 v_24 (by rw [hfo_1]; rfl) (by rw [hfo_77]; rfl)
  refine lv_aload_n hx hb dL_law_227 rfl (lv_at hl 2 rfl) ?_
  refine lv_aload_n hx hb dL_law_228 rfl (lv_at hl 1 rfl) ?_
  refine lv_iload_n hx hb dL_law_229 rfl (lv_at hl 0 rfl) ?_
  refine lv_iconst (v := 1) hx hb dL_law_230 (by decide) ?_
  refine lv_iadd hx hb dL_law_231 ?_
  refine lv_topi (fun x_98 ex_98 => ?_)
  have hx_98 : x_98.toInt = i0.toInt + 1 := by rw [ex_98, ad_I (by rw [ti_1]; omega) (by rw [ti_1]; omega), ti_1]
  have bx_98 : (1 ≤ x_98.toInt ∧ x_98.toInt ≤ 379) := by constructor <;> omega
  refine va_sld hx hb hX hbl hbA hS (vp_in_iff.mpr (by constructor <;> omega)) dL_law_232 ?_
  refine lv_topi (fun x_99 ex_99 => ?_)
  have bx_99 : ((-2147483648) ≤ x_99.toInt ∧ x_99.toInt ≤ 2147483647) := ⟨i32_lo _, i32_hi _⟩
  refine tk_ViP (As := [.int x_99]) (rest := []) (n := 1) hx hb hml hown hU hN hZ (s_X11_end_k11 l (dC, dI) cI cL cZ cR cG cH Z kd L f hG o1 mo1 ko1 x_99) wd_219 wd_220 wd_221 wd_2 wd_222 (by decide +kernel) ⟨Nat.le_of_ble_eq_true rfl, Nat.le_of_ble_eq_true rfl⟩ hK hP hD hS mo1 hfo_1 11 rfl rfl rfl hl.1 rfl (Nat.le_of_ble_eq_true rfl) dL_law_233 ⟨Nat.le_of_ble_eq_true rfl, Nat.le_of_ble_eq_true rfl⟩ (fun x_100 f_101 H locs hw hP hD hS => ?_)
  obtain ⟨hG, bx_100, hkc_102, hfc_103, hrc_104, hrc_105, hrc_106, hrc_107, hrc_108, hrc_109, hrc_110, hrc_111, hpost_112⟩ := hw
  have hfo_114 : f_101 o2 = .inr (12, [.ref a_21, .ref a_22, .ref a_23, .int v_24, .ref a_25, .int v_26, .int v_27, .int v_28, .int v_29, .int v_30, .int v_31, .int v_32, .int v_33, .int v_34, .int v_35, .ref a_36, .ref a_37, .ref a_38, .ref a_39, .ref a_40, .ref a_41, .ref a_42, .ref a_43, .int v_44, .int v_45, .int v_46, .int v_47, .int v_48, .ref a_49, .int v_50, .ref a_51, .ref a_52, .int v_53, .int v_54, .ref a_55, .int v_56, .ref a_57, .ref a_58, .int v_59, .int v_60, .ref a_61, .ref a_62, .ref a_63, .int v_64, .ref a_65, .ref a_66, .ref a_67, .ref a_68, .ref a_69, .ref a_70, .ref a_71, .ref a_72, .ref a_73, .int v_74, .int v_75, .ref a_76]) := by rw [hkc_102 o2 (by rw [ko2]; decide)]; exact hfo_77
  have hfo_115 : f_101 a_4 = .inr (3, [.ref a_80, .ref a_81, .ref a_82, .ref a_83, .ref a_84, .int v_85, .int v_86, .int v_87, .int v_88, .int v_89, .int v_90, .int v_91, .ref a_92, .ref a_93, .ref a_94, .int v_95, .ref a_96, .ref a_97]) := by rw [hkc_102 a_4 (by rw [ka_4]; decide)]; exact hfo_79
  have hrr11_2 : ∀ b, kd b = 11 → fldR (f_101 b) 2 = fldR (f b) 2 := fun b kb => (hrc_104 b kb).trans (hrr11_2 b kb)
  have hrr11_3 : ∀ b, kd b = 11 → fldR (f_101 b) 3 = fldR (f b) 3 := fun b kb => (hrc_105 b kb).trans (hrr11_3 b kb)
  have hrr11_5 : ∀ b, kd b = 11 → fldR (f_101 b) 5 = fldR (f b) 5 := fun b kb => (hrc_106 b kb).trans (hrr11_5 b kb)
  have hrr11_6 : ∀ b, kd b = 11 → fldR (f_101 b) 6 = fldR (f b) 6 := fun b kb => (hrc_107 b kb).trans (hrr11_6 b kb)
  have hrr11_7 : ∀ b, kd b = 11 → fldR (f_101 b) 7 = fldR (f b) 7 := fun b kb => (hrc_108 b kb).trans (hrr11_7 b kb)
  have hrr11_9 : ∀ b, kd b = 11 → fldR (f_101 b) 9 = fldR (f b) 9 := fun b kb => (hrc_109 b kb).trans (hrr11_9 b kb)
  have hrr11_10 : ∀ b, kd b = 11 → fldR (f_101 b) 10 = fldR (f b) 10 := fun b kb => (hrc_110 b kb).trans (hrr11_10 b kb)
  have hrr11_16 : ∀ b, kd b = 11 → fldR (f_101 b) 16 = fldR (f b) 16 := fun b kb => (hrc_111 b kb).trans (hrr11_16 b kb)
  have hrr3_0 : ∀ b, kd b = 3 → fldR (f_101 b) 0 = fldR (f b) 0 := fun b kb => (congrArg (fun x => fldR x 0) (hkc_102 b (by rw [kb]; decide))).trans (hrr3_0 b kb)
  have hrr3_3 : ∀ b, kd b = 3 → fldR (f_101 b) 3 = fldR (f b) 3 := fun b kb => (congrArg (fun x => fldR x 3) (hkc_102 b (by rw [kb]; decide))).trans (hrr3_3 b kb)
  have hrA12 : ∀ b, kd b = 12 → ∀ j, fldR (f_101 b) j = fldR (f b) j := fun b kb j => (congrArg (fun x => fldR x j) (hkc_102 b (by rw [kb]; decide))).trans (hrA12 b kb j)
  have hT0 : trel kd 7 508 510 515 4 f_101 a_5 := hT0.keep (fun b q => hkc_102 b (by rw [q]; decide)) (fun b q => hkc_102 b (by rw [q]; decide)) (fun b q => hkc_102 b (by rw [q]; decide)) (fun b q => hkc_102 b (by rw [q]; decide)) (fun b q => congrArg (fun x => fldI x 1) (hkc_102 b (by rw [q]; decide)))
  have hT1 : trel kd 107 549 551 556 104 f_101 a_8 := hT1.keep (fun b q => hkc_102 b (by rw [q]; decide)) (fun b q => hkc_102 b (by rw [q]; decide)) (fun b q => hkc_102 b (by rw [q]; decide)) (fun b q => hkc_102 b (by rw [q]; decide)) (fun b q => congrArg (fun x => fldI x 1) (hkc_102 b (by rw [q]; decide)))
  have hT2 : drel kd 1 521 522 f_101 a_83 := hT2.keep (fun b q => congrArg (fun x => fldI x 5) (hkc_102 b (by rw [q]; decide))) (fun b q => congrArg (fun x => fldR x 0) (hkc_102 b (by rw [q]; decide))) (fun b q => congrArg (fun x => fldR x 1) (hkc_102 b (by rw [q]; decide))) (fun b q => hkc_102 b (by rw [q]; decide)) (fun b q => hkc_102 b (by rw [q]; decide))
  have hT3 : urel kd 5 3 6 7 f_101 o1 := hT3.keep (fun b q => hrc_106 b q) (fun b q => hrc_105 b q) (fun b q => congrArg (fun x => fldI x 0) (hkc_102 b (by rw [q]; decide))) (fun b q => congrArg (fun x => fldI x 12) (hkc_102 b (by rw [q]; decide)))
  have hT4 : urel kd 7 6 106 107 f_101 o1 := hT4.keep (fun b q => hrc_108 b q) (fun b q => hrc_107 b q) (fun b q => congrArg (fun x => fldI x 0) (hkc_102 b (by rw [q]; decide))) (fun b q => congrArg (fun x => fldI x 12) (hkc_102 b (by rw [q]; decide)))
  have hT5 : alrel kd f_101 o1 := hT5.keep (fun b q => hrc_104 b q) (fun b q => hrc_105 b q) (fun b q => congrArg (fun x => fldR x 0) (hkc_102 b (by rw [q]; decide)))
  have hT6 : srel kd 592 f_101 o2 := hT6.keep (fun b q => congrArg (fun x => fldR x 30) (hkc_102 b (by rw [q]; decide))) (fun b q => congrArg (fun x => fldI x 32) (hkc_102 b (by rw [q]; decide))) (fun b q => congrArg (fun x => fldI x 33) (hkc_102 b (by rw [q]; decide))) (fun b q => hkc_102 b (by rw [q]; decide))
  obtain ⟨a_117, v_118, a_119, a_120, a_121, a_122, a_123, a_124, v_125, a_126, a_127, a_128, v_129, v_130, a_131, v_132, a_133, a_134, v_135, hfo_116, ⟨ma_117, ka_117⟩, bv_118, ⟨ma_119, ka_119⟩, ⟨ma_120, ka_120⟩, ⟨ma_121, ka_121⟩, ⟨ma_122, ka_122⟩, ⟨ma_123, ka_123⟩, ⟨ma_124, ka_124⟩, bv_125, ⟨ma_126, ka_126⟩, ⟨ma_127, ka_127⟩, ⟨ma_128, ka_128⟩, bv_129, ⟨ma_131, ka_131⟩, bv_132, ⟨ma_133, ka_133⟩, ⟨ma_134, ka_134⟩⟩ := un_11 (hG _ mo1) ko1
  have bv_130 : ((-2147483648) ≤ v_130.toInt ∧ v_130.toInt ≤ 2147483647) := ⟨i32_lo _, i32_hi _⟩
  have bv_135 : ((-2147483648) ≤ v_135.toInt ∧ v_135.toInt ≤ 2147483647) := ⟨i32_lo _, i32_hi _⟩
  obtain rfl : a_4 = a_119 := by have hk9 := hrr11_2 o1 ko1; rw [hfo_116, hfo_1] at hk9; exact (Option.some.inj hk9).symm
  obtain rfl : a_5 = a_120 := by have hk9 := hrr11_3 o1 ko1; rw [hfo_116, hfo_1] at hk9; exact (Option.some.inj hk9).symm
  obtain rfl : a_7 = a_122 := by have hk9 := hrr11_5 o1 ko1; rw [hfo_116, hfo_1] at hk9; exact (Option.some.inj hk9).symm
  obtain rfl : a_8 = a_123 := by have hk9 := hrr11_6 o1 ko1; rw [hfo_116, hfo_1] at hk9; exact (Option.some.inj hk9).symm
  obtain rfl : a_9 = a_124 := by have hk9 := hrr11_7 o1 ko1; rw [hfo_116, hfo_1] at hk9; exact (Option.some.inj hk9).symm
  obtain rfl : a_11 = a_126 := by have hk9 := hrr11_9 o1 ko1; rw [hfo_116, hfo_1] at hk9; exact (Option.some.inj hk9).symm
  obtain rfl : a_12 = a_127 := by have hk9 := hrr11_10 o1 ko1; rw [hfo_116, hfo_1] at hk9; exact (Option.some.inj hk9).symm
  obtain rfl : a_18 = a_133 := by have hk9 := hrr11_16 o1 ko1; rw [hfo_116, hfo_1] at hk9; exact (Option.some.inj hk9).symm
  obtain rfl : v_10 = v_125 := by have hk9 := hfc_103 o1 ko1; rw [hfo_116, hfo_1] at hk9; exact (Option.some.inj hk9).symm
  have hqhpost_112 := hpost_112 v_3 v_118 (by rw [hfo_1]; rfl) (by rw [hfo_116]; rfl)
  refine lv_aload_n hx hb dL_law_236 rfl (lv_at hl 3 rfl) ?_
  refine lv_aload_n hx hb dL_law_237 rfl (lv_at hl 1 rfl) ?_
  refine lv_iload_n hx hb dL_law_238 rfl (lv_at hl 0 rfl) ?_
  refine lv_iconst (v := 1) hx hb dL_law_239 (by decide) ?_
  refine lv_iadd hx hb dL_law_240 ?_
  refine lv_topi (fun x_136 ex_136 => ?_)
  have hx_136 : x_136.toInt = i0.toInt + 1 := by rw [ex_136, ad_I (by rw [ti_1]; omega) (by rw [ti_1]; omega), ti_1]
  have bx_136 : (1 ≤ x_136.toInt ∧ x_136.toInt ≤ 379) := by constructor <;> omega
  refine va_sld hx hb hX hbl hbA hS (vp_in_iff.mpr (by constructor <;> omega)) dL_law_241 ?_
  refine lv_topi (fun x_137 ex_137 => ?_)
  have bx_137 : ((-2147483648) ≤ x_137.toInt ∧ x_137.toInt ≤ 2147483647) := ⟨i32_lo _, i32_hi _⟩
  have hsmx_137 : x_137.toInt = x_99.toInt := by rw [ex_137, ex_136, ex_99, ex_98]
  refine tk_ViP (As := [.int x_137]) (rest := [.int x_100]) (n := 1) hx hb hml hown hU hN hZ (s_X12_end_k12 l (dC, dI) cI cL cZ cR cG cH Z kd L f_101 hG o2 mo2 ko2 x_137) wd_223 wd_224 wd_225 wd_5 wd_226 (by decide +kernel) ⟨Nat.le_of_ble_eq_true rfl, Nat.le_of_ble_eq_true rfl⟩ hK hP hD hS mo2 hfo_114 12 rfl rfl rfl hl.1 rfl (Nat.le_of_ble_eq_true rfl) dL_law_242 ⟨Nat.le_of_ble_eq_true rfl, Nat.le_of_ble_eq_true rfl⟩ (fun x_138 f_139 H locs hw hP hD hS => ?_)
  obtain ⟨hG, bx_138, hkc_140, hra_141, hfa_142, hpost_143⟩ := hw
  have hfo_145 : f_139 a_4 = .inr (3, [.ref a_80, .ref a_81, .ref a_82, .ref a_83, .ref a_84, .int v_85, .int v_86, .int v_87, .int v_88, .int v_89, .int v_90, .int v_91, .ref a_92, .ref a_93, .ref a_94, .int v_95, .ref a_96, .ref a_97]) := by rw [hkc_140 a_4 (by rw [ka_4]; decide)]; exact hfo_115
  have hfo_146 : f_139 o1 = .inr (11, [.ref a_117, .int v_118, .ref a_4, .ref a_5, .ref a_121, .ref a_7, .ref a_8, .ref a_9, .int v_10, .ref a_11, .ref a_12, .ref a_128, .int v_129, .int v_130, .ref a_131, .int v_132, .ref a_18, .ref a_134, .int v_135]) := by rw [hkc_140 o1 (by rw [ko1]; decide)]; exact hfo_116
  have hrr11_2 : ∀ b, kd b = 11 → fldR (f_139 b) 2 = fldR (f b) 2 := fun b kb => (congrArg (fun x => fldR x 2) (hkc_140 b (by rw [kb]; decide))).trans (hrr11_2 b kb)
  have hrr11_3 : ∀ b, kd b = 11 → fldR (f_139 b) 3 = fldR (f b) 3 := fun b kb => (congrArg (fun x => fldR x 3) (hkc_140 b (by rw [kb]; decide))).trans (hrr11_3 b kb)
  have hrr11_5 : ∀ b, kd b = 11 → fldR (f_139 b) 5 = fldR (f b) 5 := fun b kb => (congrArg (fun x => fldR x 5) (hkc_140 b (by rw [kb]; decide))).trans (hrr11_5 b kb)
  have hrr11_6 : ∀ b, kd b = 11 → fldR (f_139 b) 6 = fldR (f b) 6 := fun b kb => (congrArg (fun x => fldR x 6) (hkc_140 b (by rw [kb]; decide))).trans (hrr11_6 b kb)
  have hrr11_7 : ∀ b, kd b = 11 → fldR (f_139 b) 7 = fldR (f b) 7 := fun b kb => (congrArg (fun x => fldR x 7) (hkc_140 b (by rw [kb]; decide))).trans (hrr11_7 b kb)
  have hrr11_9 : ∀ b, kd b = 11 → fldR (f_139 b) 9 = fldR (f b) 9 := fun b kb => (congrArg (fun x => fldR x 9) (hkc_140 b (by rw [kb]; decide))).trans (hrr11_9 b kb)
  have hrr11_10 : ∀ b, kd b = 11 → fldR (f_139 b) 10 = fldR (f b) 10 := fun b kb => (congrArg (fun x => fldR x 10) (hkc_140 b (by rw [kb]; decide))).trans (hrr11_10 b kb)
  have hrr11_16 : ∀ b, kd b = 11 → fldR (f_139 b) 16 = fldR (f b) 16 := fun b kb => (congrArg (fun x => fldR x 16) (hkc_140 b (by rw [kb]; decide))).trans (hrr11_16 b kb)
  have hrr3_0 : ∀ b, kd b = 3 → fldR (f_139 b) 0 = fldR (f b) 0 := fun b kb => (congrArg (fun x => fldR x 0) (hkc_140 b (by rw [kb]; decide))).trans (hrr3_0 b kb)
  have hrr3_3 : ∀ b, kd b = 3 → fldR (f_139 b) 3 = fldR (f b) 3 := fun b kb => (congrArg (fun x => fldR x 3) (hkc_140 b (by rw [kb]; decide))).trans (hrr3_3 b kb)
  have hrA12 : ∀ b, kd b = 12 → ∀ j, fldR (f_139 b) j = fldR (f b) j := fun b kb j => (hra_141 b kb j).trans (hrA12 b kb j)
  have hT0 : trel kd 7 508 510 515 4 f_139 a_5 := hT0.keep (fun b q => hkc_140 b (by rw [q]; decide)) (fun b q => hkc_140 b (by rw [q]; decide)) (fun b q => hkc_140 b (by rw [q]; decide)) (fun b q => hkc_140 b (by rw [q]; decide)) (fun b q => congrArg (fun x => fldI x 1) (hkc_140 b (by rw [q]; decide)))
  have hT1 : trel kd 107 549 551 556 104 f_139 a_8 := hT1.keep (fun b q => hkc_140 b (by rw [q]; decide)) (fun b q => hkc_140 b (by rw [q]; decide)) (fun b q => hkc_140 b (by rw [q]; decide)) (fun b q => hkc_140 b (by rw [q]; decide)) (fun b q => congrArg (fun x => fldI x 1) (hkc_140 b (by rw [q]; decide)))
  have hT2 : drel kd 1 521 522 f_139 a_83 := hT2.keep (fun b q => congrArg (fun x => fldI x 5) (hkc_140 b (by rw [q]; decide))) (fun b q => congrArg (fun x => fldR x 0) (hkc_140 b (by rw [q]; decide))) (fun b q => congrArg (fun x => fldR x 1) (hkc_140 b (by rw [q]; decide))) (fun b q => hkc_140 b (by rw [q]; decide)) (fun b q => hkc_140 b (by rw [q]; decide))
  have hT3 : urel kd 5 3 6 7 f_139 o1 := hT3.keep (fun b q => congrArg (fun x => fldR x 5) (hkc_140 b (by rw [q]; decide))) (fun b q => congrArg (fun x => fldR x 3) (hkc_140 b (by rw [q]; decide))) (fun b q => congrArg (fun x => fldI x 0) (hkc_140 b (by rw [q]; decide))) (fun b q => congrArg (fun x => fldI x 12) (hkc_140 b (by rw [q]; decide)))
  have hT4 : urel kd 7 6 106 107 f_139 o1 := hT4.keep (fun b q => congrArg (fun x => fldR x 7) (hkc_140 b (by rw [q]; decide))) (fun b q => congrArg (fun x => fldR x 6) (hkc_140 b (by rw [q]; decide))) (fun b q => congrArg (fun x => fldI x 0) (hkc_140 b (by rw [q]; decide))) (fun b q => congrArg (fun x => fldI x 12) (hkc_140 b (by rw [q]; decide)))
  have hT5 : alrel kd f_139 o1 := hT5.keep (fun b q => congrArg (fun x => fldR x 2) (hkc_140 b (by rw [q]; decide))) (fun b q => congrArg (fun x => fldR x 3) (hkc_140 b (by rw [q]; decide))) (fun b q => congrArg (fun x => fldR x 0) (hkc_140 b (by rw [q]; decide)))
  have hT6 : srel kd 592 f_139 o2 := hT6.keep (fun b q => hra_141 b q 30) (fun b q => hfa_142 b q 32 (by decide)) (fun b q => hfa_142 b q 33 (by decide)) (fun b q => hkc_140 b (by rw [q]; decide))
  obtain ⟨v_147, hfo_148, fa_149⟩ := op12_5 hfo_114 (hG _ mo2) ko2 (hra_141 o2 ko2) (hfa_142 o2 ko2)
  have bv_147 : (0 ≤ v_147.toInt ∧ v_147.toInt ≤ 600) := fa12_5 fa_149
  have hqhpost_143 := hpost_143 v_26 v_147 (by rw [hfo_114]; rfl) (by rw [hfo_148]; rfl)
  refine lv_icmp_eq (tgt := 933) hx hb dL_law_245 (by decide) (fun c_150 => ?_) (fun c_150 => ?_)
  · skip
    rw [← Int32.toInt_inj] at c_150
    exact kk f_139 _ _ hG hP hD hS ⟨(fun d9 h9 => by rw [hfo_146] at h9; obtain rfl := Option.some.inj h9; exact hT0), (fun d9 h9 => by rw [hfo_146] at h9; obtain rfl := Option.some.inj h9; exact hT1), (fun r9 d9 h8 h9 => by rw [hfo_146] at h8; obtain rfl := Option.some.inj h8; rw [hfo_145] at h9; obtain rfl := Option.some.inj h9; exact hT2), hT3, hT4, hT5, hT6, (fun z9 h9 => by rw [hfo_148] at h9; obtain rfl := Option.some.inj h9; omega), (fun y9 z9 h8 h9 => by rw [hfo_146] at h8; obtain rfl := Option.some.inj h8; rw [hfo_148] at h9; obtain rfl := Option.some.inj h9; omega), (fun y9 z9 h8 h9 => by rw [hfo_146] at h8; obtain rfl := Option.some.inj h8; rw [hfo_148] at h9; obtain rfl := Option.some.inj h9; omega)⟩ ls (lv_sub hl [0, 1, 2, 3] rfl)
  · skip
    rw [← Int32.toInt_inj] at c_150
    exfalso
    omega
set_option maxHeartbeats 8000000 in
set_option maxRecDepth 100000 in
theorem law_c2 {p : Program} {l : Launch} {e : Env} {s : State} {m : MethodId} {below : List Frame} {meth : Method} {c : Code} {dC : Nat → ClassId} {dI : Nat → Nat → Nat} {cI cL cZ cR cG cH : ClassId} {Z : zT} {kd : Nat → Nat} {L : List Nat} {b Ln : Nat} {xs : Nat → Int32} (hLn : Ln ≤ 384) (C0 : lw_At p s m meth c b Ln xs) (hK : va_K (dC, dI) vwCl (TY6 cI cL cZ cR cG cH) s) (hN : nsW s) (hZ : zW Z L s) (hLs : ∀ q ∈ L, s.heap.size ≤ q) {o1 o2 : Nat} (mo1 : o1 ∈ L) (ko1 : kd o1 = 11) (mo2 : o2 ∈ L) (ko2 : kd o2 = 12) {f : Nat → va_E} (hG : GI (okc cI cL cZ cR cG cH L kd) kd L f) {H : Heap} {locs : List Loc} (hP : va_P (dC, dI) vwCl (va_pl L f) H) (hD : va_D (fun q => q ∈ L) (va_pl L f)) (hS : va_S (fun q => q ∈ L) s.heap H locs) (hI : lawI kd f o1 o2) {i0 : Int32} (bi0 : 0 ≤ i0.toInt ∧ i0.toInt ≤ 378) (hi0 : i0.toInt + 6 ≤ (Ln : Int))
    (kk : ∀ (f1 : Nat → va_E) (H1 : Heap) (locs1 : List Loc), GI (okc cI cL cZ cR cG cH L kd) kd L f1 → va_P (dC, dI) vwCl (va_pl L f1) H1 → va_D (fun q => q ∈ L) (va_pl L f1) → va_S (fun q => q ∈ L) s.heap H1 locs1 → lawI kd f1 o1 o2 → ∀ (ls : Array Slot), lv_has ls 4 [(3, .int i0), (0, .ref b), (1, .ref o1), (2, .ref o2)] → W p l e room_1 s m #[Value.ref b] below meth c H1 locs1 559 115398 (lw_Z below #[Value.ref b] s) (F0 m 933 ls []))
    {ls : Array Slot} (hl : lv_has ls 4 [(3, .int i0), (0, .ref b), (1, .ref o1), (2, .ref o2)]) : W p l e room_1 s m #[Value.ref b] below meth c H locs 559 115398 (lw_Z below #[Value.ref b] s) (F0 m 250 ls []) := by
  obtain ⟨hx, hb, hr, hml, hown0, hts, hX, hbl, hlocks, hgv⟩ := C0
  have hown : s.vm.findClass RL = some m.cls := hown0
  have hU : ∀ w ∈ wsU, w.before #[Value.ref b] s = true := fun w h => hts w (wsU_in w h)
  have hbA : ¬ (fun q => q ∈ L) b := fun h => absurd (hLs b h) (Nat.not_le.mpr hbl)
  obtain ⟨hxtr0, hxtr1, hxtr2, hxtr3, hxtr4, hxtr5, hxtr6, hx29, hxtp, hxim⟩ := hI
  have hrr11_2 : ∀ b, kd b = 11 → fldR (f b) 2 = fldR (f b) 2 := fun _ _ => rfl
  have hrr11_3 : ∀ b, kd b = 11 → fldR (f b) 3 = fldR (f b) 3 := fun _ _ => rfl
  have hrr11_5 : ∀ b, kd b = 11 → fldR (f b) 5 = fldR (f b) 5 := fun _ _ => rfl
  have hrr11_6 : ∀ b, kd b = 11 → fldR (f b) 6 = fldR (f b) 6 := fun _ _ => rfl
  have hrr11_7 : ∀ b, kd b = 11 → fldR (f b) 7 = fldR (f b) 7 := fun _ _ => rfl
  have hrr11_9 : ∀ b, kd b = 11 → fldR (f b) 9 = fldR (f b) 9 := fun _ _ => rfl
  have hrr11_10 : ∀ b, kd b = 11 → fldR (f b) 10 = fldR (f b) 10 := fun _ _ => rfl
  have hrr11_16 : ∀ b, kd b = 11 → fldR (f b) 16 = fldR (f b) 16 := fun _ _ => rfl
  have hrr3_0 : ∀ b, kd b = 3 → fldR (f b) 0 = fldR (f b) 0 := fun _ _ => rfl
  have hrr3_3 : ∀ b, kd b = 3 → fldR (f b) 3 = fldR (f b) 3 := fun _ _ => rfl
  have hrA12 : ∀ b, kd b = 12 → ∀ j, fldR (f b) j = fldR (f b) j := fun _ _ _ => rfl
  obtain ⟨a_2, v_3, a_4, a_5, a_6, a_7, a_8, a_9, v_10, a_11, a_12, a_13, v_14, v_15, a_16, v_17, a_18, a_19, v_20, hfo_1, ⟨ma_2, ka_2⟩, bv_3, ⟨ma_4, ka_4⟩, ⟨ma_5, ka_5⟩, ⟨ma_6, ka_6⟩, ⟨ma_7, ka_7⟩, ⟨ma_8, ka_8⟩, ⟨ma_9, ka_9⟩, bv_10, ⟨ma_11, ka_11⟩, ⟨ma_12, ka_12⟩, ⟨ma_13, ka_13⟩, bv_14, ⟨ma_16, ka_16⟩, bv_17, ⟨ma_18, ka_18⟩, ⟨ma_19, ka_19⟩⟩ := un_11 (hG _ mo1) ko1
  have bv_15 : ((-2147483648) ≤ v_15.toInt ∧ v_15.toInt ≤ 2147483647) := ⟨i32_lo _, i32_hi _⟩
  have bv_20 : ((-2147483648) ≤ v_20.toInt ∧ v_20.toInt ≤ 2147483647) := ⟨i32_lo _, i32_hi _⟩
  obtain ⟨a_21, a_22, a_23, v_24, a_25, v_26, v_27, v_28, v_29, v_30, v_31, v_32, v_33, v_34, v_35, a_36, a_37, a_38, a_39, a_40, a_41, a_42, a_43, v_44, v_45, v_46, v_47, v_48, a_49, v_50, a_51, a_52, v_53, v_54, a_55, v_56, a_57, a_58, v_59, v_60, a_61, a_62, a_63, v_64, a_65, a_66, a_67, a_68, a_69, a_70, a_71, a_72, a_73, v_74, v_75, a_76, hfo_77, fa_78⟩ := un12 (hG _ mo2) ko2
  have bv_24 : (0 ≤ v_24.toInt ∧ v_24.toInt ≤ 1) := fa12_3 fa_78
  have bv_26 : (0 ≤ v_26.toInt ∧ v_26.toInt ≤ 600) := fa12_5 fa_78
  have bv_50 : (0 ≤ v_50.toInt ∧ v_50.toInt ≤ 201) := fa12_29 fa_78
  have hT0 := hxtr0 a_5 (by rw [hfo_1]; rfl)
  have hT1 := hxtr1 a_8 (by rw [hfo_1]; rfl)
  obtain ⟨a_80, a_81, a_82, a_83, a_84, v_85, v_86, v_87, v_88, v_89, v_90, v_91, a_92, a_93, a_94, v_95, a_96, a_97, hfo_79, ⟨ma_80, ka_80⟩, ⟨ma_81, ka_81⟩, ⟨ma_82, ka_82⟩, ⟨ma_83, ka_83⟩, ⟨ma_84, ka_84⟩, bv_85, bv_86, bv_87, ⟨ma_92, ka_92⟩, ⟨ma_93, ka_93⟩, ⟨ma_94, ka_94⟩, bv_95, ⟨ma_96, ka_96⟩, ⟨ma_97, ka_97⟩⟩ := un_3 (hG _ ma_4) ka_4
  have bv_88 : ((-2147483648) ≤ v_88.toInt ∧ v_88.toInt ≤ 2147483647) := ⟨i32_lo _, i32_hi _⟩
  have bv_89 : ((-2147483648) ≤ v_89.toInt ∧ v_89.toInt ≤ 2147483647) := ⟨i32_lo _, i32_hi _⟩
  have bv_90 : ((-2147483648) ≤ v_90.toInt ∧ v_90.toInt ≤ 2147483647) := ⟨i32_lo _, i32_hi _⟩
  have bv_91 : ((-2147483648) ≤ v_91.toInt ∧ v_91.toInt ≤ 2147483647) := ⟨i32_lo _, i32_hi _⟩
  have hT2 := hxtr2 a_4 a_83 (by rw [hfo_1]; rfl) (by rw [hfo_79]; rfl)
  have hT3 := hxtr3
  have hT4 := hxtr4
  have hT5 := hxtr5
  have hT6 := hxtr6
  have h29 := hx29 v_50 (by rw [hfo_77]; rfl)
  have htp := hxtp v_3 v_26 (by rw [hfo_1]; rfl) (by rw [hfo_77]; rfl)
  have him := hxim v_10 v_24 (by rw [hfo_1]; rfl) (by rw [hfo_77]; rfl)
  refine lv_aload_n hx hb dL_law_250 rfl (lv_at hl 2 rfl) ?_
  refine tk_ViP (As := []) (rest := []) (n := 0) hx hb hml hown hU hN hZ (s_X11_text_k11 l (dC, dI) cI cL cZ cR cG cH Z kd L f hG o1 mo1 ko1 (fun d9 h9 => by rw [hfo_1] at h9; obtain rfl := Option.some.inj h9; exact hT0) hT3) wd_230 wd_231 wd_232 wd_2 wd_233 (by decide +kernel) ⟨Nat.le_of_ble_eq_true rfl, Nat.le_of_ble_eq_true rfl⟩ hK hP hD hS mo1 hfo_1 11 rfl rfl rfl hl.1 rfl (Nat.le_of_ble_eq_true rfl) dL_law_251 ⟨Nat.le_of_ble_eq_true rfl, Nat.le_of_ble_eq_true rfl⟩ (fun x_98 f_99 H locs hw hP hD hS => ?_)
  obtain ⟨hG, bx_98, hkc_100, hfc_101, hrc_102, hrc_103, hrc_104, hrc_105, hrc_106, hrc_107, hrc_108, hrc_109, hrc_110, hrc_111, hrc_112, hrc_113, hrc_114, hrc_115, hrc_116, hrc_117, hpost_118, hTc_119, hTc_120⟩ := hw
  have hfo_122 : f_99 o2 = .inr (12, [.ref a_21, .ref a_22, .ref a_23, .int v_24, .ref a_25, .int v_26, .int v_27, .int v_28, .int v_29, .int v_30, .int v_31, .int v_32, .int v_33, .int v_34, .int v_35, .ref a_36, .ref a_37, .ref a_38, .ref a_39, .ref a_40, .ref a_41, .ref a_42, .ref a_43, .int v_44, .int v_45, .int v_46, .int v_47, .int v_48, .ref a_49, .int v_50, .ref a_51, .ref a_52, .int v_53, .int v_54, .ref a_55, .int v_56, .ref a_57, .ref a_58, .int v_59, .int v_60, .ref a_61, .ref a_62, .ref a_63, .int v_64, .ref a_65, .ref a_66, .ref a_67, .ref a_68, .ref a_69, .ref a_70, .ref a_71, .ref a_72, .ref a_73, .int v_74, .int v_75, .ref a_76]) := by rw [hkc_100 o2 (by rw [ko2]; decide) (by rw [ko2]; decide) (by rw [ko2]; decide) (by rw [ko2]; decide) (by rw [ko2]; decide) (by rw [ko2]; decide) (by rw [ko2]; decide) (by rw [ko2]; decide) (by rw [ko2]; decide) (by rw [ko2]; decide) (by rw [ko2]; decide) (by rw [ko2]; decide) (by rw [ko2]; decide) (by rw [ko2]; decide) (by rw [ko2]; decide) (by rw [ko2]; decide) (by rw [ko2]; decide) (by rw [ko2]; decide) (by rw [ko2]; decide) (by rw [ko2]; decide) (by rw [ko2]; decide) (by rw [ko2]; decide) (by rw [ko2]; decide) (by rw [ko2]; decide) (by rw [ko2]; decide) (by rw [ko2]; decide) (by rw [ko2]; decide) (by rw [ko2]; decide) (by rw [ko2]; decide) (by rw [ko2]; decide) (by rw [ko2]; decide) (by rw [ko2]; decide) (by rw [ko2]; decide) (by rw [ko2]; decide) (by rw [ko2]; decide) (by rw [ko2]; decide) (by rw [ko2]; decide) (by rw [ko2]; decide) (by rw [ko2]; decide) (by rw [ko2]; decide) (by rw [ko2]; decide) (by rw [ko2]; decide) (by rw [ko2]; decide) (by rw [ko2]; decide)]; exact hfo_77
  have hfo_123 : f_99 a_4 = .inr (3, [.ref a_80, .ref a_81, .ref a_82, .ref a_83, .ref a_84, .int v_85, .int v_86, .int v_87, .int v_88, .int v_89, .int v_90, .int v_91, .ref a_92, .ref a_93, .ref a_94, .int v_95, .ref a_96, .ref a_97]) := by rw [hkc_100 a_4 (by rw [ka_4]; decide) (by rw [ka_4]; decide) (by rw [ka_4]; decide) (by rw [ka_4]; decide) (by rw [ka_4]; decide) (by rw [ka_4]; decide) (by rw [ka_4]; decide) (by rw [ka_4]; decide) (by rw [ka_4]; decide) (by rw [ka_4]; decide) (by rw [ka_4]; decide) (by rw [ka_4]; decide) (by rw [ka_4]; decide) (by rw [ka_4]; decide) (by rw [ka_4]; decide) (by rw [ka_4]; decide) (by rw [ka_4]; decide) (by rw [ka_4]; decide) (by rw [ka_4]; decide) (by rw [ka_4]; decide) (by rw [ka_4]; decide) (by rw [ka_4]; decide) (by rw [ka_4]; decide) (by rw [ka_4]; decide) (by rw [ka_4]; decide) (by rw [ka_4]; decide) (by rw [ka_4]; decide) (by rw [ka_4]; decide) (by rw [ka_4]; decide) (by rw [ka_4]; decide) (by rw [ka_4]; decide) (by rw [ka_4]; decide) (by rw [ka_4]; decide) (by rw [ka_4]; decide) (by rw [ka_4]; decide) (by rw [ka_4]; decide) (by rw [ka_4]; decide) (by rw [ka_4]; decide) (by rw [ka_4]; decide) (by rw [ka_4]; decide) (by rw [ka_4]; decide) (by rw [ka_4]; decide) (by rw [ka_4]; decide) (by rw [ka_4]; decide)]; exact hfo_79
  have hrr11_2 : ∀ b, kd b = 11 → fldR (f_99 b) 2 = fldR (f b) 2 := fun b kb => (hrc_107 b kb).trans (hrr11_2 b kb)
  have hrr11_3 : ∀ b, kd b = 11 → fldR (f_99 b) 3 = fldR (f b) 3 := fun b kb => (hrc_108 b kb).trans (hrr11_3 b kb)
  have hrr11_5 : ∀ b, kd b = 11 → fldR (f_99 b) 5 = fldR (f b) 5 := fun b kb => (hrc_109 b kb).trans (hrr11_5 b kb)
  have hrr11_6 : ∀ b, kd b = 11 → fldR (f_99 b) 6 = fldR (f b) 6 := fun b kb => (hrc_110 b kb).trans (hrr11_6 b kb)
  have hrr11_7 : ∀ b, kd b = 11 → fldR (f_99 b) 7 = fldR (f b) 7 := fun b kb => (hrc_111 b kb).trans (hrr11_7 b kb)
  have hrr11_9 : ∀ b, kd b = 11 → fldR (f_99 b) 9 = fldR (f b) 9 := fun b kb => (hrc_112 b kb).trans (hrr11_9 b kb)
  have hrr11_10 : ∀ b, kd b = 11 → fldR (f_99 b) 10 = fldR (f b) 10 := fun b kb => (hrc_113 b kb).trans (hrr11_10 b kb)
  have hrr11_16 : ∀ b, kd b = 11 → fldR (f_99 b) 16 = fldR (f b) 16 := fun b kb => (hrc_114 b kb).trans (hrr11_16 b kb)
  have hrr3_0 : ∀ b, kd b = 3 → fldR (f_99 b) 0 = fldR (f b) 0 := fun b kb => (congrArg (fun x => fldR x 0) (hkc_100 b (by rw [kb]; decide) (by rw [kb]; decide) (by rw [kb]; decide) (by rw [kb]; decide) (by rw [kb]; decide) (by rw [kb]; decide) (by rw [kb]; decide) (by rw [kb]; decide) (by rw [kb]; decide) (by rw [kb]; decide) (by rw [kb]; decide) (by rw [kb]; decide) (by rw [kb]; decide) (by rw [kb]; decide) (by rw [kb]; decide) (by rw [kb]; decide) (by rw [kb]; decide) (by rw [kb]; decide) (by rw [kb]; decide) (by rw [kb]; decide) (by rw [kb]; decide) (by rw [kb]; decide) (by rw [kb]; decide) (by rw [kb]; decide) (by rw [kb]; decide) (by rw [kb]; decide) (by rw [kb]; decide) (by rw [kb]; decide) (by rw [kb]; decide) (by rw [kb]; decide) (by rw [kb]; decide) (by rw [kb]; decide) (by rw [kb]; decide) (by rw [kb]; decide) (by rw [kb]; decide) (by rw [kb]; decide) (by rw [kb]; decide) (by rw [kb]; decide) (by rw [kb]; decide) (by rw [kb]; decide) (by rw [kb]; decide) (by rw [kb]; decide) (by rw [kb]; decide) (by rw [kb]; decide))).trans (hrr3_0 b kb)
  have hrr3_3 : ∀ b, kd b = 3 → fldR (f_99 b) 3 = fldR (f b) 3 := fun b kb => (congrArg (fun x => fldR x 3) (hkc_100 b (by rw [kb]; decide) (by rw [kb]; decide) (by rw [kb]; decide) (by rw [kb]; decide) (by rw [kb]; decide) (by rw [kb]; decide) (by rw [kb]; decide) (by rw [kb]; decide) (by rw [kb]; decide) (by rw [kb]; decide) (by rw [kb]; decide) (by rw [kb]; decide) (by rw [kb]; decide) (by rw [kb]; decide) (by rw [kb]; decide) (by rw [kb]; decide) (by rw [kb]; decide) (by rw [kb]; decide) (by rw [kb]; decide) (by rw [kb]; decide) (by rw [kb]; decide) (by rw [kb]; decide) (by rw [kb]; decide) (by rw [kb]; decide) (by rw [kb]; decide) (by rw [kb]; decide) (by rw [kb]; decide) (by rw [kb]; decide) (by rw [kb]; decide) (by rw [kb]; decide) (by rw [kb]; decide) (by rw [kb]; decide) (by rw [kb]; decide) (by rw [kb]; decide) (by rw [kb]; decide) (by rw [kb]; decide) (by rw [kb]; decide) (by rw [kb]; decide) (by rw [kb]; decide) (by rw [kb]; decide) (by rw [kb]; decide) (by rw [kb]; decide) (by rw [kb]; decide) (by rw [kb]; decide))).trans (hrr3_3 b kb)
  have hrA12 : ∀ b, kd b = 12 → ∀ j, fldR (f_99 b) j = fldR (f b) j := fun b kb j => (congrArg (fun x => fldR x j) (hkc_100 b (by rw [kb]; decide) (by rw [kb]; decide) (by rw [kb]; decide) (by rw [kb]; decide) (by rw [kb]; decide) (by rw [kb]; decide) (by rw [kb]; decide) (by rw [kb]; decide) (by rw [kb]; decide) (by rw [kb]; decide) (by rw [kb]; decide) (by rw [kb]; decide) (by rw [kb]; decide) (by rw [kb]; decide) (by rw [kb]; decide) (by rw [kb]; decide) (by rw [kb]; decide) (by rw [kb]; decide) (by rw [kb]; decide) (by rw [kb]; decide) (by rw [kb]; decide) (by rw [kb]; decide) (by rw [kb]; decide) (by rw [kb]; decide) (by rw [kb]; decide) (by rw [kb]; decide) (by rw [kb]; decide) (by rw [kb]; decide) (by rw [kb]; decide) (by rw [kb]; decide) (by rw [kb]; decide) (by rw [kb]; decide) (by rw [kb]; decide) (by rw [kb]; decide) (by rw [kb]; decide) (by rw [kb]; decide) (by rw [kb]; decide) (by rw [kb]; decide) (by rw [kb]; decide) (by rw [kb]; decide) (by rw [kb]; decide) (by rw [kb]; decide) (by rw [kb]; decide) (by rw [kb]; decide))).trans (hrA12 b kb j)
  have hT1 : trel kd 107 549 551 556 104 f_99 a_8 := hT1.keep (fun b q => hkc_100 b (by rw [q]; decide) (by rw [q]; decide) (by rw [q]; decide) (by rw [q]; decide) (by rw [q]; decide) (by rw [q]; decide) (by rw [q]; decide) (by rw [q]; decide) (by rw [q]; decide) (by rw [q]; decide) (by rw [q]; decide) (by rw [q]; decide) (by rw [q]; decide) (by rw [q]; decide) (by rw [q]; decide) (by rw [q]; decide) (by rw [q]; decide) (by rw [q]; decide) (by rw [q]; decide) (by rw [q]; decide) (by rw [q]; decide) (by rw [q]; decide) (by rw [q]; decide) (by rw [q]; decide) (by rw [q]; decide) (by rw [q]; decide) (by rw [q]; decide) (by rw [q]; decide) (by rw [q]; decide) (by rw [q]; decide) (by rw [q]; decide) (by rw [q]; decide) (by rw [q]; decide) (by rw [q]; decide) (by rw [q]; decide) (by rw [q]; decide) (by rw [q]; decide) (by rw [q]; decide) (by rw [q]; decide) (by rw [q]; decide) (by rw [q]; decide) (by rw [q]; decide) (by rw [q]; decide) (by rw [q]; decide)) (fun b q => hkc_100 b (by rw [q]; decide) (by rw [q]; decide) (by rw [q]; decide) (by rw [q]; decide) (by rw [q]; decide) (by rw [q]; decide) (by rw [q]; decide) (by rw [q]; decide) (by rw [q]; decide) (by rw [q]; decide) (by rw [q]; decide) (by rw [q]; decide) (by rw [q]; decide) (by rw [q]; decide) (by rw [q]; decide) (by rw [q]; decide) (by rw [q]; decide) (by rw [q]; decide) (by rw [q]; decide) (by rw [q]; decide) (by rw [q]; decide) (by rw [q]; decide) (by rw [q]; decide) (by rw [q]; decide) (by rw [q]; decide) (by rw [q]; decide) (by rw [q]; decide) (by rw [q]; decide) (by rw [q]; decide) (by rw [q]; decide) (by rw [q]; decide) (by rw [q]; decide) (by rw [q]; decide) (by rw [q]; decide) (by rw [q]; decide) (by rw [q]; decide) (by rw [q]; decide) (by rw [q]; decide) (by rw [q]; decide) (by rw [q]; decide) (by rw [q]; decide) (by rw [q]; decide) (by rw [q]; decide) (by rw [q]; decide)) (fun b q => hkc_100 b (by rw [q]; decide) (by rw [q]; decide) (by rw [q]; decide) (by rw [q]; decide) (by rw [q]; decide) (by rw [q]; decide) (by rw [q]; decide) (by rw [q]; decide) (by rw [q]; decide) (by rw [q]; decide) (by rw [q]; decide) (by rw [q]; decide) (by rw [q]; decide) (by rw [q]; decide) (by rw [q]; decide) (by rw [q]; decide) (by rw [q]; decide) (by rw [q]; decide) (by rw [q]; decide) (by rw [q]; decide) (by rw [q]; decide) (by rw [q]; decide) (by rw [q]; decide) (by rw [q]; decide) (by rw [q]; decide) (by rw [q]; decide) (by rw [q]; decide) (by rw [q]; decide) (by rw [q]; decide) (by rw [q]; decide) (by rw [q]; decide) (by rw [q]; decide) (by rw [q]; decide) (by rw [q]; decide) (by rw [q]; decide) (by rw [q]; decide) (by rw [q]; decide) (by rw [q]; decide) (by rw [q]; decide) (by rw [q]; decide) (by rw [q]; decide) (by rw [q]; decide) (by rw [q]; decide) (by rw [q]; decide)) (fun b q => hkc_100 b (by rw [q]; decide) (by rw [q]; decide) (by rw [q]; decide) (by rw [q]; decide) (by rw [q]; decide) (by rw [q]; decide) (by rw [q]; decide) (by rw [q]; decide) (by rw [q]; decide) (by rw [q]; decide) (by rw [q]; decide) (by rw [q]; decide) (by rw [q]; decide) (by rw [q]; decide) (by rw [q]; decide) (by rw [q]; decide) (by rw [q]; decide) (by rw [q]; decide) (by rw [q]; decide) (by rw [q]; decide) (by rw [q]; decide) (by rw [q]; decide) (by rw [q]; decide) (by rw [q]; decide) (by rw [q]; decide) (by rw [q]; decide) (by rw [q]; decide) (by rw [q]; decide) (by rw [q]; decide) (by rw [q]; decide) (by rw [q]; decide) (by rw [q]; decide) (by rw [q]; decide) (by rw [q]; decide) (by rw [q]; decide) (by rw [q]; decide) (by rw [q]; decide) (by rw [q]; decide) (by rw [q]; decide) (by rw [q]; decide) (by rw [q]; decide) (by rw [q]; decide) (by rw [q]; decide) (by rw [q]; decide)) (fun b q => congrArg (fun x => fldI x 1) (hkc_100 b (by rw [q]; decide) (by rw [q]; decide) (by rw [q]; decide) (by rw [q]; decide) (by rw [q]; decide) (by rw [q]; decide) (by rw [q]; decide) (by rw [q]; decide) (by rw [q]; decide) (by rw [q]; decide) (by rw [q]; decide) (by rw [q]; decide) (by rw [q]; decide) (by rw [q]; decide) (by rw [q]; decide) (by rw [q]; decide) (by rw [q]; decide) (by rw [q]; decide) (by rw [q]; decide) (by rw [q]; decide) (by rw [q]; decide) (by rw [q]; decide) (by rw [q]; decide) (by rw [q]; decide) (by rw [q]; decide) (by rw [q]; decide) (by rw [q]; decide) (by rw [q]; decide) (by rw [q]; decide) (by rw [q]; decide) (by rw [q]; decide) (by rw [q]; decide) (by rw [q]; decide) (by rw [q]; decide) (by rw [q]; decide) (by rw [q]; decide) (by rw [q]; decide) (by rw [q]; decide) (by rw [q]; decide) (by rw [q]; decide) (by rw [q]; decide) (by rw [q]; decide) (by rw [q]; decide) (by rw [q]; decide)))
  have hT2 : drel kd 1 521 522 f_99 a_83 := hT2.keep (fun b q => congrArg (fun x => fldI x 5) (hkc_100 b (by rw [q]; decide) (by rw [q]; decide) (by rw [q]; decide) (by rw [q]; decide) (by rw [q]; decide) (by rw [q]; decide) (by rw [q]; decide) (by rw [q]; decide) (by rw [q]; decide) (by rw [q]; decide) (by rw [q]; decide) (by rw [q]; decide) (by rw [q]; decide) (by rw [q]; decide) (by rw [q]; decide) (by rw [q]; decide) (by rw [q]; decide) (by rw [q]; decide) (by rw [q]; decide) (by rw [q]; decide) (by rw [q]; decide) (by rw [q]; decide) (by rw [q]; decide) (by rw [q]; decide) (by rw [q]; decide) (by rw [q]; decide) (by rw [q]; decide) (by rw [q]; decide) (by rw [q]; decide) (by rw [q]; decide) (by rw [q]; decide) (by rw [q]; decide) (by rw [q]; decide) (by rw [q]; decide) (by rw [q]; decide) (by rw [q]; decide) (by rw [q]; decide) (by rw [q]; decide) (by rw [q]; decide) (by rw [q]; decide) (by rw [q]; decide) (by rw [q]; decide) (by rw [q]; decide) (by rw [q]; decide))) (fun b q => congrArg (fun x => fldR x 0) (hkc_100 b (by rw [q]; decide) (by rw [q]; decide) (by rw [q]; decide) (by rw [q]; decide) (by rw [q]; decide) (by rw [q]; decide) (by rw [q]; decide) (by rw [q]; decide) (by rw [q]; decide) (by rw [q]; decide) (by rw [q]; decide) (by rw [q]; decide) (by rw [q]; decide) (by rw [q]; decide) (by rw [q]; decide) (by rw [q]; decide) (by rw [q]; decide) (by rw [q]; decide) (by rw [q]; decide) (by rw [q]; decide) (by rw [q]; decide) (by rw [q]; decide) (by rw [q]; decide) (by rw [q]; decide) (by rw [q]; decide) (by rw [q]; decide) (by rw [q]; decide) (by rw [q]; decide) (by rw [q]; decide) (by rw [q]; decide) (by rw [q]; decide) (by rw [q]; decide) (by rw [q]; decide) (by rw [q]; decide) (by rw [q]; decide) (by rw [q]; decide) (by rw [q]; decide) (by rw [q]; decide) (by rw [q]; decide) (by rw [q]; decide) (by rw [q]; decide) (by rw [q]; decide) (by rw [q]; decide) (by rw [q]; decide))) (fun b q => congrArg (fun x => fldR x 1) (hkc_100 b (by rw [q]; decide) (by rw [q]; decide) (by rw [q]; decide) (by rw [q]; decide) (by rw [q]; decide) (by rw [q]; decide) (by rw [q]; decide) (by rw [q]; decide) (by rw [q]; decide) (by rw [q]; decide) (by rw [q]; decide) (by rw [q]; decide) (by rw [q]; decide) (by rw [q]; decide) (by rw [q]; decide) (by rw [q]; decide) (by rw [q]; decide) (by rw [q]; decide) (by rw [q]; decide) (by rw [q]; decide) (by rw [q]; decide) (by rw [q]; decide) (by rw [q]; decide) (by rw [q]; decide) (by rw [q]; decide) (by rw [q]; decide) (by rw [q]; decide) (by rw [q]; decide) (by rw [q]; decide) (by rw [q]; decide) (by rw [q]; decide) (by rw [q]; decide) (by rw [q]; decide) (by rw [q]; decide) (by rw [q]; decide) (by rw [q]; decide) (by rw [q]; decide) (by rw [q]; decide) (by rw [q]; decide) (by rw [q]; decide) (by rw [q]; decide) (by rw [q]; decide) (by rw [q]; decide) (by rw [q]; decide))) (fun b q => hkc_100 b (by rw [q]; decide) (by rw [q]; decide) (by rw [q]; decide) (by rw [q]; decide) (by rw [q]; decide) (by rw [q]; decide) (by rw [q]; decide) (by rw [q]; decide) (by rw [q]; decide) (by rw [q]; decide) (by rw [q]; decide) (by rw [q]; decide) (by rw [q]; decide) (by rw [q]; decide) (by rw [q]; decide) (by rw [q]; decide) (by rw [q]; decide) (by rw [q]; decide) (by rw [q]; decide) (by rw [q]; decide) (by rw [q]; decide) (by rw [q]; decide) (by rw [q]; decide) (by rw [q]; decide) (by rw [q]; decide) (by rw [q]; decide) (by rw [q]; decide) (by rw [q]; decide) (by rw [q]; decide) (by rw [q]; decide) (by rw [q]; decide) (by rw [q]; decide) (by rw [q]; decide) (by rw [q]; decide) (by rw [q]; decide) (by rw [q]; decide) (by rw [q]; decide) (by rw [q]; decide) (by rw [q]; decide) (by rw [q]; decide) (by rw [q]; decide) (by rw [q]; decide) (by rw [q]; decide) (by rw [q]; decide)) (fun b q => hkc_100 b (by rw [q]; decide) (by rw [q]; decide) (by rw [q]; decide) (by rw [q]; decide) (by rw [q]; decide) (by rw [q]; decide) (by rw [q]; decide) (by rw [q]; decide) (by rw [q]; decide) (by rw [q]; decide) (by rw [q]; decide) (by rw [q]; decide) (by rw [q]; decide) (by rw [q]; decide) (by rw [q]; decide) (by rw [q]; decide) (by rw [q]; decide) (by rw [q]; decide) (by rw [q]; decide) (by rw [q]; decide) (by rw [q]; decide) (by rw [q]; decide) (by rw [q]; decide) (by rw [q]; decide) (by rw [q]; decide) (by rw [q]; decide) (by rw [q]; decide) (by rw [q]; decide) (by rw [q]; decide) (by rw [q]; decide) (by rw [q]; decide) (by rw [q]; decide) (by rw [q]; decide) (by rw [q]; decide) (by rw [q]; decide) (by rw [q]; decide) (by rw [q]; decide) (by rw [q]; decide) (by rw [q]; decide) (by rw [q]; decide) (by rw [q]; decide) (by rw [q]; decide) (by rw [q]; decide) (by rw [q]; decide))
  have hT4 : urel kd 7 6 106 107 f_99 o1 := hT4.keep (fun b q => hrc_111 b q) (fun b q => hrc_110 b q) (fun b q => congrArg (fun x => fldI x 0) (hkc_100 b (by rw [q]; decide) (by rw [q]; decide) (by rw [q]; decide) (by rw [q]; decide) (by rw [q]; decide) (by rw [q]; decide) (by rw [q]; decide) (by rw [q]; decide) (by rw [q]; decide) (by rw [q]; decide) (by rw [q]; decide) (by rw [q]; decide) (by rw [q]; decide) (by rw [q]; decide) (by rw [q]; decide) (by rw [q]; decide) (by rw [q]; decide) (by rw [q]; decide) (by rw [q]; decide) (by rw [q]; decide) (by rw [q]; decide) (by rw [q]; decide) (by rw [q]; decide) (by rw [q]; decide) (by rw [q]; decide) (by rw [q]; decide) (by rw [q]; decide) (by rw [q]; decide) (by rw [q]; decide) (by rw [q]; decide) (by rw [q]; decide) (by rw [q]; decide) (by rw [q]; decide) (by rw [q]; decide) (by rw [q]; decide) (by rw [q]; decide) (by rw [q]; decide) (by rw [q]; decide) (by rw [q]; decide) (by rw [q]; decide) (by rw [q]; decide) (by rw [q]; decide) (by rw [q]; decide) (by rw [q]; decide))) (fun b q => congrArg (fun x => fldI x 12) (hkc_100 b (by rw [q]; decide) (by rw [q]; decide) (by rw [q]; decide) (by rw [q]; decide) (by rw [q]; decide) (by rw [q]; decide) (by rw [q]; decide) (by rw [q]; decide) (by rw [q]; decide) (by rw [q]; decide) (by rw [q]; decide) (by rw [q]; decide) (by rw [q]; decide) (by rw [q]; decide) (by rw [q]; decide) (by rw [q]; decide) (by rw [q]; decide) (by rw [q]; decide) (by rw [q]; decide) (by rw [q]; decide) (by rw [q]; decide) (by rw [q]; decide) (by rw [q]; decide) (by rw [q]; decide) (by rw [q]; decide) (by rw [q]; decide) (by rw [q]; decide) (by rw [q]; decide) (by rw [q]; decide) (by rw [q]; decide) (by rw [q]; decide) (by rw [q]; decide) (by rw [q]; decide) (by rw [q]; decide) (by rw [q]; decide) (by rw [q]; decide) (by rw [q]; decide) (by rw [q]; decide) (by rw [q]; decide) (by rw [q]; decide) (by rw [q]; decide) (by rw [q]; decide) (by rw [q]; decide) (by rw [q]; decide)))
  have hT5 : alrel kd f_99 o1 := hT5.keep (fun b q => hrc_107 b q) (fun b q => hrc_108 b q) (fun b q => congrArg (fun x => fldR x 0) (hkc_100 b (by rw [q]; decide) (by rw [q]; decide) (by rw [q]; decide) (by rw [q]; decide) (by rw [q]; decide) (by rw [q]; decide) (by rw [q]; decide) (by rw [q]; decide) (by rw [q]; decide) (by rw [q]; decide) (by rw [q]; decide) (by rw [q]; decide) (by rw [q]; decide) (by rw [q]; decide) (by rw [q]; decide) (by rw [q]; decide) (by rw [q]; decide) (by rw [q]; decide) (by rw [q]; decide) (by rw [q]; decide) (by rw [q]; decide) (by rw [q]; decide) (by rw [q]; decide) (by rw [q]; decide) (by rw [q]; decide) (by rw [q]; decide) (by rw [q]; decide) (by rw [q]; decide) (by rw [q]; decide) (by rw [q]; decide) (by rw [q]; decide) (by rw [q]; decide) (by rw [q]; decide) (by rw [q]; decide) (by rw [q]; decide) (by rw [q]; decide) (by rw [q]; decide) (by rw [q]; decide) (by rw [q]; decide) (by rw [q]; decide) (by rw [q]; decide) (by rw [q]; decide) (by rw [q]; decide) (by rw [q]; decide)))
  have hT6 : srel kd 592 f_99 o2 := hT6.keep (fun b q => congrArg (fun x => fldR x 30) (hkc_100 b (by rw [q]; decide) (by rw [q]; decide) (by rw [q]; decide) (by rw [q]; decide) (by rw [q]; decide) (by rw [q]; decide) (by rw [q]; decide) (by rw [q]; decide) (by rw [q]; decide) (by rw [q]; decide) (by rw [q]; decide) (by rw [q]; decide) (by rw [q]; decide) (by rw [q]; decide) (by rw [q]; decide) (by rw [q]; decide) (by rw [q]; decide) (by rw [q]; decide) (by rw [q]; decide) (by rw [q]; decide) (by rw [q]; decide) (by rw [q]; decide) (by rw [q]; decide) (by rw [q]; decide) (by rw [q]; decide) (by rw [q]; decide) (by rw [q]; decide) (by rw [q]; decide) (by rw [q]; decide) (by rw [q]; decide) (by rw [q]; decide) (by rw [q]; decide) (by rw [q]; decide) (by rw [q]; decide) (by rw [q]; decide) (by rw [q]; decide) (by rw [q]; decide) (by rw [q]; decide) (by rw [q]; decide) (by rw [q]; decide) (by rw [q]; decide) (by rw [q]; decide) (by rw [q]; decide) (by rw [q]; decide))) (fun b q => congrArg (fun x => fldI x 32) (hkc_100 b (by rw [q]; decide) (by rw [q]; decide) (by rw [q]; decide) (by rw [q]; decide) (by rw [q]; decide) (by rw [q]; decide) (by rw [q]; decide) (by rw [q]; decide) (by rw [q]; decide) (by rw [q]; decide) (by rw [q]; decide) (by rw [q]; decide) (by rw [q]; decide) (by rw [q]; decide) (by rw [q]; decide) (by rw [q]; decide) (by rw [q]; decide) (by rw [q]; decide) (by rw [q]; decide) (by rw [q]; decide) (by rw [q]; decide) (by rw [q]; decide) (by rw [q]; decide) (by rw [q]; decide) (by rw [q]; decide) (by rw [q]; decide) (by rw [q]; decide) (by rw [q]; decide) (by rw [q]; decide) (by rw [q]; decide) (by rw [q]; decide) (by rw [q]; decide) (by rw [q]; decide) (by rw [q]; decide) (by rw [q]; decide) (by rw [q]; decide) (by rw [q]; decide) (by rw [q]; decide) (by rw [q]; decide) (by rw [q]; decide) (by rw [q]; decide) (by rw [q]; decide) (by rw [q]; decide) (by rw [q]; decide))) (fun b q => congrArg (fun x => fldI x 33) (hkc_100 b (by rw [q]; decide) (by rw [q]; decide) (by rw [q]; decide) (by rw [q]; decide) (by rw [q]; decide) (by rw [q]; decide) (by rw [q]; decide) (by rw [q]; decide) (by rw [q]; decide) (by rw [q]; decide) (by rw [q]; decide) (by rw [q]; decide) (by rw [q]; decide) (by rw [q]; decide) (by rw [q]; decide) (by rw [q]; decide) (by rw [q]; decide) (by rw [q]; decide) (by rw [q]; decide) (by rw [q]; decide) (by rw [q]; decide) (by rw [q]; decide) (by rw [q]; decide) (by rw [q]; decide) (by rw [q]; decide) (by rw [q]; decide) (by rw [q]; decide) (by rw [q]; decide) (by rw [q]; decide) (by rw [q]; decide) (by rw [q]; decide) (by rw [q]; decide) (by rw [q]; decide) (by rw [q]; decide) (by rw [q]; decide) (by rw [q]; decide) (by rw [q]; decide) (by rw [q]; decide) (by rw [q]; decide) (by rw [q]; decide) (by rw [q]; decide) (by rw [q]; decide) (by rw [q]; decide) (by rw [q]; decide))) (fun b q => hkc_100 b (by rw [q]; decide) (by rw [q]; decide) (by rw [q]; decide) (by rw [q]; decide) (by rw [q]; decide) (by rw [q]; decide) (by rw [q]; decide) (by rw [q]; decide) (by rw [q]; decide) (by rw [q]; decide) (by rw [q]; decide) (by rw [q]; decide) (by rw [q]; decide) (by rw [q]; decide) (by rw [q]; decide) (by rw [q]; decide) (by rw [q]; decide) (by rw [q]; decide) (by rw [q]; decide) (by rw [q]; decide) (by rw [q]; decide) (by rw [q]; decide) (by rw [q]; decide) (by rw [q]; decide) (by rw [q]; decide) (by rw [q]; decide) (by rw [q]; decide) (by rw [q]; decide) (by rw [q]; decide) (by rw [q]; decide) (by rw [q]; decide) (by rw [q]; decide) (by rw [q]; decide) (by rw [q]; decide) (by rw [q]; decide) (by rw [q]; decide) (by rw [q]; decide) (by rw [q]; decide) (by rw [q]; decide) (by rw [q]; decide) (by rw [q]; decide) (by rw [q]; decide) (by rw [q]; decide) (by rw [q]; decide))
  obtain ⟨a_125, v_126, a_127, a_128, a_129, a_130, a_131, a_132, v_133, a_134, a_135, a_136, v_137, v_138, a_139, v_140, a_141, a_142, v_143, hfo_124, ⟨ma_125, ka_125⟩, bv_126, ⟨ma_127, ka_127⟩, ⟨ma_128, ka_128⟩, ⟨ma_129, ka_129⟩, ⟨ma_130, ka_130⟩, ⟨ma_131, ka_131⟩, ⟨ma_132, ka_132⟩, bv_133, ⟨ma_134, ka_134⟩, ⟨ma_135, ka_135⟩, ⟨ma_136, ka_136⟩, bv_137, ⟨ma_139, ka_139⟩, bv_140, ⟨ma_141, ka_141⟩, ⟨ma_142, ka_142⟩⟩ := un_11 (hG _ mo1) ko1
  have bv_138 : ((-2147483648) ≤ v_138.toInt ∧ v_138.toInt ≤ 2147483647) := ⟨i32_lo _, i32_hi _⟩
  have bv_143 : ((-2147483648) ≤ v_143.toInt ∧ v_143.toInt ≤ 2147483647) := ⟨i32_lo _, i32_hi _⟩
  obtain rfl : a_4 = a_127 := by have hk9 := hrr11_2 o1 ko1; rw [hfo_124, hfo_1] at hk9; exact (Option.some.inj hk9).symm
  obtain rfl : a_5 = a_128 := by have hk9 := hrr11_3 o1 ko1; rw [hfo_124, hfo_1] at hk9; exact (Option.some.inj hk9).symm
  obtain rfl : a_7 = a_130 := by have hk9 := hrr11_5 o1 ko1; rw [hfo_124, hfo_1] at hk9; exact (Option.some.inj hk9).symm
  obtain rfl : a_8 = a_131 := by have hk9 := hrr11_6 o1 ko1; rw [hfo_124, hfo_1] at hk9; exact (Option.some.inj hk9).symm
  obtain rfl : a_9 = a_132 := by have hk9 := hrr11_7 o1 ko1; rw [hfo_124, hfo_1] at hk9; exact (Option.some.inj hk9).symm
  obtain rfl : a_11 = a_134 := by have hk9 := hrr11_9 o1 ko1; rw [hfo_124, hfo_1] at hk9; exact (Option.some.inj hk9).symm
  obtain rfl : a_12 = a_135 := by have hk9 := hrr11_10 o1 ko1; rw [hfo_124, hfo_1] at hk9; exact (Option.some.inj hk9).symm
  obtain rfl : a_18 = a_141 := by have hk9 := hrr11_16 o1 ko1; rw [hfo_124, hfo_1] at hk9; exact (Option.some.inj hk9).symm
  obtain rfl : v_10 = v_133 := by have hk9 := hfc_101 o1 ko1; rw [hfo_124, hfo_1] at hk9; exact (Option.some.inj hk9).symm
  have hqhpost_118 := hpost_118 v_3 v_126 (by rw [hfo_1]; rfl) (by rw [hfo_124]; rfl)
  have hT_144 := hTc_119 a_5 (by rw [hfo_124]; rfl)
  refine lv_pop hx hb dL_law_254 rfl ?_
  refine lv_aload_n hx hb dL_law_255 rfl (lv_at hl 3 rfl) ?_
  refine tk_ViP (As := []) (rest := []) (n := 0) hx hb hml hown hU hN hZ (s_X12_text_k12 l (dC, dI) cI cL cZ cR cG cH Z kd L f_99 hG o2 mo2 ko2) wd_562 wd_563 wd_564 wd_5 wd_565 (by decide +kernel) ⟨Nat.le_of_ble_eq_true rfl, Nat.le_of_ble_eq_true rfl⟩ hK hP hD hS mo2 hfo_122 12 rfl rfl rfl hl.1 rfl (Nat.le_of_ble_eq_true rfl) dL_law_256 ⟨Nat.le_of_ble_eq_true rfl, Nat.le_of_ble_eq_true rfl⟩ (fun x_145 f_146 H locs hw hP hD hS => ?_)
  obtain ⟨hG, bx_145, hkc_147, hra_148, hfa_149, hpost_150⟩ := hw
  have hfo_152 : f_146 a_4 = .inr (3, [.ref a_80, .ref a_81, .ref a_82, .ref a_83, .ref a_84, .int v_85, .int v_86, .int v_87, .int v_88, .int v_89, .int v_90, .int v_91, .ref a_92, .ref a_93, .ref a_94, .int v_95, .ref a_96, .ref a_97]) := by rw [hkc_147 a_4 (by rw [ka_4]; decide) (by rw [ka_4]; decide) (by rw [ka_4]; decide)]; exact hfo_123
  have hfo_153 : f_146 o1 = .inr (11, [.ref a_125, .int v_126, .ref a_4, .ref a_5, .ref a_129, .ref a_7, .ref a_8, .ref a_9, .int v_10, .ref a_11, .ref a_12, .ref a_136, .int v_137, .int v_138, .ref a_139, .int v_140, .ref a_18, .ref a_142, .int v_143]) := by rw [hkc_147 o1 (by rw [ko1]; decide) (by rw [ko1]; decide) (by rw [ko1]; decide)]; exact hfo_124
  have hrr11_2 : ∀ b, kd b = 11 → fldR (f_146 b) 2 = fldR (f b) 2 := fun b kb => (congrArg (fun x => fldR x 2) (hkc_147 b (by rw [kb]; decide) (by rw [kb]; decide) (by rw [kb]; decide))).trans (hrr11_2 b kb)
  have hrr11_3 : ∀ b, kd b = 11 → fldR (f_146 b) 3 = fldR (f b) 3 := fun b kb => (congrArg (fun x => fldR x 3) (hkc_147 b (by rw [kb]; decide) (by rw [kb]; decide) (by rw [kb]; decide))).trans (hrr11_3 b kb)
  have hrr11_5 : ∀ b, kd b = 11 → fldR (f_146 b) 5 = fldR (f b) 5 := fun b kb => (congrArg (fun x => fldR x 5) (hkc_147 b (by rw [kb]; decide) (by rw [kb]; decide) (by rw [kb]; decide))).trans (hrr11_5 b kb)
  have hrr11_6 : ∀ b, kd b = 11 → fldR (f_146 b) 6 = fldR (f b) 6 := fun b kb => (congrArg (fun x => fldR x 6) (hkc_147 b (by rw [kb]; decide) (by rw [kb]; decide) (by rw [kb]; decide))).trans (hrr11_6 b kb)
  have hrr11_7 : ∀ b, kd b = 11 → fldR (f_146 b) 7 = fldR (f b) 7 := fun b kb => (congrArg (fun x => fldR x 7) (hkc_147 b (by rw [kb]; decide) (by rw [kb]; decide) (by rw [kb]; decide))).trans (hrr11_7 b kb)
  have hrr11_9 : ∀ b, kd b = 11 → fldR (f_146 b) 9 = fldR (f b) 9 := fun b kb => (congrArg (fun x => fldR x 9) (hkc_147 b (by rw [kb]; decide) (by rw [kb]; decide) (by rw [kb]; decide))).trans (hrr11_9 b kb)
  have hrr11_10 : ∀ b, kd b = 11 → fldR (f_146 b) 10 = fldR (f b) 10 := fun b kb => (congrArg (fun x => fldR x 10) (hkc_147 b (by rw [kb]; decide) (by rw [kb]; decide) (by rw [kb]; decide))).trans (hrr11_10 b kb)
  have hrr11_16 : ∀ b, kd b = 11 → fldR (f_146 b) 16 = fldR (f b) 16 := fun b kb => (congrArg (fun x => fldR x 16) (hkc_147 b (by rw [kb]; decide) (by rw [kb]; decide) (by rw [kb]; decide))).trans (hrr11_16 b kb)
  have hrr3_0 : ∀ b, kd b = 3 → fldR (f_146 b) 0 = fldR (f b) 0 := fun b kb => (congrArg (fun x => fldR x 0) (hkc_147 b (by rw [kb]; decide) (by rw [kb]; decide) (by rw [kb]; decide))).trans (hrr3_0 b kb)
  have hrr3_3 : ∀ b, kd b = 3 → fldR (f_146 b) 3 = fldR (f b) 3 := fun b kb => (congrArg (fun x => fldR x 3) (hkc_147 b (by rw [kb]; decide) (by rw [kb]; decide) (by rw [kb]; decide))).trans (hrr3_3 b kb)
  have hrA12 : ∀ b, kd b = 12 → ∀ j, fldR (f_146 b) j = fldR (f b) j := fun b kb j => (hra_148 b kb j).trans (hrA12 b kb j)
  have hT1 : trel kd 107 549 551 556 104 f_146 a_8 := hT1.keep (fun b q => hkc_147 b (by rw [q]; decide) (by rw [q]; decide) (by rw [q]; decide)) (fun b q => hkc_147 b (by rw [q]; decide) (by rw [q]; decide) (by rw [q]; decide)) (fun b q => hkc_147 b (by rw [q]; decide) (by rw [q]; decide) (by rw [q]; decide)) (fun b q => hkc_147 b (by rw [q]; decide) (by rw [q]; decide) (by rw [q]; decide)) (fun b q => congrArg (fun x => fldI x 1) (hkc_147 b (by rw [q]; decide) (by rw [q]; decide) (by rw [q]; decide)))
  have hT2 : drel kd 1 521 522 f_146 a_83 := hT2.keep (fun b q => congrArg (fun x => fldI x 5) (hkc_147 b (by rw [q]; decide) (by rw [q]; decide) (by rw [q]; decide))) (fun b q => congrArg (fun x => fldR x 0) (hkc_147 b (by rw [q]; decide) (by rw [q]; decide) (by rw [q]; decide))) (fun b q => congrArg (fun x => fldR x 1) (hkc_147 b (by rw [q]; decide) (by rw [q]; decide) (by rw [q]; decide))) (fun b q => hkc_147 b (by rw [q]; decide) (by rw [q]; decide) (by rw [q]; decide)) (fun b q => hkc_147 b (by rw [q]; decide) (by rw [q]; decide) (by rw [q]; decide))
  have hT4 : urel kd 7 6 106 107 f_146 o1 := hT4.keep (fun b q => congrArg (fun x => fldR x 7) (hkc_147 b (by rw [q]; decide) (by rw [q]; decide) (by rw [q]; decide))) (fun b q => congrArg (fun x => fldR x 6) (hkc_147 b (by rw [q]; decide) (by rw [q]; decide) (by rw [q]; decide))) (fun b q => congrArg (fun x => fldI x 0) (hkc_147 b (by rw [q]; decide) (by rw [q]; decide) (by rw [q]; decide))) (fun b q => congrArg (fun x => fldI x 12) (hkc_147 b (by rw [q]; decide) (by rw [q]; decide) (by rw [q]; decide)))
  have hT5 : alrel kd f_146 o1 := hT5.keep (fun b q => congrArg (fun x => fldR x 2) (hkc_147 b (by rw [q]; decide) (by rw [q]; decide) (by rw [q]; decide))) (fun b q => congrArg (fun x => fldR x 3) (hkc_147 b (by rw [q]; decide) (by rw [q]; decide) (by rw [q]; decide))) (fun b q => congrArg (fun x => fldR x 0) (hkc_147 b (by rw [q]; decide) (by rw [q]; decide) (by rw [q]; decide)))
  have hT6 : srel kd 592 f_146 o2 := hT6.keep (fun b q => hra_148 b q 30) (fun b q => hfa_149 b q 32 (by decide) (by decide) (by decide) (by decide) (by decide) (by decide) (by decide) (by decide) (by decide) (by decide) (by decide) (by decide) (by decide) (by decide)) (fun b q => hfa_149 b q 33 (by decide) (by decide) (by decide) (by decide) (by decide) (by decide) (by decide) (by decide) (by decide) (by decide) (by decide) (by decide) (by decide) (by decide)) (fun b q => hkc_147 b (by rw [q]; decide) (by rw [q]; decide) (by rw [q]; decide))
  have hT_144 : trel kd 7 508 510 515 4 f_146 a_5 := hT_144.keep (fun b q => hkc_147 b (by rw [q]; decide) (by rw [q]; decide) (by rw [q]; decide)) (fun b q => hkc_147 b (by rw [q]; decide) (by rw [q]; decide) (by rw [q]; decide)) (fun b q => hkc_147 b (by rw [q]; decide) (by rw [q]; decide) (by rw [q]; decide)) (fun b q => hkc_147 b (by rw [q]; decide) (by rw [q]; decide) (by rw [q]; decide)) (fun b q => congrArg (fun x => fldI x 1) (hkc_147 b (by rw [q]; decide) (by rw [q]; decide) (by rw [q]; decide)))
  have hTc_120 : urel kd 5 3 6 7 f_146 o1 := hTc_120.keep (fun b q => congrArg (fun x => fldR x 5) (hkc_147 b (by rw [q]; decide) (by rw [q]; decide) (by rw [q]; decide))) (fun b q => congrArg (fun x => fldR x 3) (hkc_147 b (by rw [q]; decide) (by rw [q]; decide) (by rw [q]; decide))) (fun b q => congrArg (fun x => fldI x 0) (hkc_147 b (by rw [q]; decide) (by rw [q]; decide) (by rw [q]; decide))) (fun b q => congrArg (fun x => fldI x 12) (hkc_147 b (by rw [q]; decide) (by rw [q]; decide) (by rw [q]; decide)))
  obtain ⟨v_154, v_155, v_156, v_157, v_158, v_159, v_160, v_161, v_162, v_163, v_164, v_165, v_166, v_167, hfo_168, fa_169⟩ := op12_5_6_7_8_9_10_11_12_13_14_29_38_39_43 hfo_122 (hG _ mo2) ko2 (hra_148 o2 ko2) (hfa_149 o2 ko2)
  have bv_154 : (0 ≤ v_154.toInt ∧ v_154.toInt ≤ 600) := fa12_5 fa_169
  have bv_155 : (0 ≤ v_155.toInt ∧ v_155.toInt ≤ 600) := fa12_6 fa_169
  have bv_156 : ((-2147483648) ≤ v_156.toInt ∧ v_156.toInt ≤ 2147483647) := ⟨i32_lo _, i32_hi _⟩
  have bv_157 : ((-2147483648) ≤ v_157.toInt ∧ v_157.toInt ≤ 2147483647) := ⟨i32_lo _, i32_hi _⟩
  have bv_158 : ((-2147483648) ≤ v_158.toInt ∧ v_158.toInt ≤ 2147483647) := ⟨i32_lo _, i32_hi _⟩
  have bv_159 : ((-2147483648) ≤ v_159.toInt ∧ v_159.toInt ≤ 2147483647) := ⟨i32_lo _, i32_hi _⟩
  have bv_160 : (0 ≤ v_160.toInt ∧ v_160.toInt ≤ 8) := fa12_11 fa_169
  have bv_161 : (0 ≤ v_161.toInt ∧ v_161.toInt ≤ 8) := fa12_12 fa_169
  have bv_162 : (0 ≤ v_162.toInt ∧ v_162.toInt ≤ 8) := fa12_13 fa_169
  have bv_163 : ((-2147483648) ≤ v_163.toInt ∧ v_163.toInt ≤ 2147483647) := ⟨i32_lo _, i32_hi _⟩
  have bv_164 : (0 ≤ v_164.toInt ∧ v_164.toInt ≤ 201) := fa12_29 fa_169
  have bv_165 : (0 ≤ v_165.toInt ∧ v_165.toInt ≤ 96) := fa12_38 fa_169
  have bv_166 : ((-2147483648) ≤ v_166.toInt ∧ v_166.toInt ≤ 2147483647) := ⟨i32_lo _, i32_hi _⟩
  have bv_167 : (0 ≤ v_167.toInt ∧ v_167.toInt ≤ 8) := fa12_43 fa_169
  have hqhpost_150 := hpost_150 v_26 v_154 v_50 v_164 (by rw [hfo_122]; rfl) (by rw [hfo_122]; rfl) (by rw [hfo_168]; rfl) (by rw [hfo_168]; rfl)
  refine lv_pop hx hb dL_law_259 rfl ?_
  refine lv_goto (tgt := 933) hx hb dL_law_260 (by decide) ?_
  exact kk f_146 _ _ hG hP hD hS ⟨(fun d9 h9 => by rw [hfo_153] at h9; obtain rfl := Option.some.inj h9; exact hT_144), (fun d9 h9 => by rw [hfo_153] at h9; obtain rfl := Option.some.inj h9; exact hT1), (fun r9 d9 h8 h9 => by rw [hfo_153] at h8; obtain rfl := Option.some.inj h8; rw [hfo_152] at h9; obtain rfl := Option.some.inj h9; exact hT2), hTc_120, hT4, hT5, hT6, (fun z9 h9 => by rw [hfo_168] at h9; obtain rfl := Option.some.inj h9; omega), (fun y9 z9 h8 h9 => by rw [hfo_153] at h8; obtain rfl := Option.some.inj h8; rw [hfo_168] at h9; obtain rfl := Option.some.inj h9; omega), (fun y9 z9 h8 h9 => by rw [hfo_153] at h8; obtain rfl := Option.some.inj h8; rw [hfo_168] at h9; obtain rfl := Option.some.inj h9; omega)⟩ ls (lv_sub hl [0, 1, 2, 3] rfl)
