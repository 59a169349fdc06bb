set_option maxHeartbeats 8000000 in
set_option maxRecDepth 100000 in
theorem law_c26 {p : Program} {l : Launch} {e : Env} {s : State} {m : MethodId} {below : List Frame} {meth : Method} {c : Code} {dC : Nat → ClassId} {dI : Nat → Nat → Nat} {cI cL cZ cR cG cH : ClassId} {Z : zT} {kd : Nat → Nat} {L : List Nat} {b Ln : Nat} {xs : Nat → Int32} (hLn : Ln ≤ 384) (C0 : lw_At p s m meth c b Ln xs) (hK : va_K (dC, dI) vwCl (TY6 cI cL cZ cR cG cH) s) (hN : nsW s) (hZ : zW Z L s) (hLs : ∀ q ∈ L, s.heap.size ≤ q) {o1 o2 : Nat} (mo1 : o1 ∈ L) (ko1 : kd o1 = 11) (mo2 : o2 ∈ L) (ko2 : kd o2 = 12) {f : Nat → va_E} (hG : GI (okc cI cL cZ cR cG cH L kd) kd L f) {H : Heap} {locs : List Loc} (hP : va_P (dC, dI) vwCl (va_pl L f) H) (hD : va_D (fun q => q ∈ L) (va_pl L f)) (hS : va_S (fun q => q ∈ L) s.heap H locs) (hI : lawI kd f o1 o2) {i0 : Int32} (bi0 : 0 ≤ i0.toInt ∧ i0.toInt ≤ 378) (hi0 : i0.toInt + 6 ≤ (Ln : Int))
    (kk : ∀ (f1 : Nat → va_E) (H1 : Heap) (locs1 : List Loc), GI (okc cI cL cZ cR cG cH L kd) kd L f1 → va_P (dC, dI) vwCl (va_pl L f1) H1 → va_D (fun q => q ∈ L) (va_pl L f1) → va_S (fun q => q ∈ L) s.heap H1 locs1 → lawI kd f1 o1 o2 → ∀ (ls : Array Slot), lv_has ls 4 [(3, .int i0), (0, .ref b), (1, .ref o1), (2, .ref o2)] → W p l e room_1 s m #[Value.ref b] below meth c H1 locs1 559 115398 (lw_Z below #[Value.ref b] s) (F0 m 933 ls []))
    {ls : Array Slot} (hl : lv_has ls 4 [(3, .int i0), (0, .ref b), (1, .ref o1), (2, .ref o2)]) : W p l e room_1 s m #[Value.ref b] below meth c H locs 559 115398 (lw_Z below #[Value.ref b] s) (F0 m 838 ls []) := by
  obtain ⟨hx, hb, hr, hml, hown0, hts, hX, hbl, hlocks, hgv⟩ := C0
  have hown : s.vm.findClass RL = some m.cls := hown0
  have hU : ∀ w ∈ wsU, w.before #[Value.ref b] s = true := fun w h => hts w (wsU_in w h)
  have hbA : ¬ (fun q => q ∈ L) b := fun h => absurd (hLs b h) (Nat.not_le.mpr hbl)
  obtain ⟨hxtr0, hxtr1, hxtr2, hxtr3, hxtr4, hxtr5, hxtr6, hx29, hxtp, hxim⟩ := hI
  have hrr11_2 : ∀ b, kd b = 11 → fldR (f b) 2 = fldR (f b) 2 := fun _ _ => rfl
  have hrr11_3 : ∀ b, kd b = 11 → fldR (f b) 3 = fldR (f b) 3 := fun _ _ => rfl
  have hrr11_5 : ∀ b, kd b = 11 → fldR (f b) 5 = fldR (f b) 5 := fun _ _ => rfl
  have hrr11_6 : ∀ b, kd b = 11 → fldR (f b) 6 = fldR (f b) 6 := fun _ _ => rfl
  have hrr11_7 : ∀ b, kd b = 11 → fldR (f b) 7 = fldR (f b) 7 := fun _ _ => rfl
  have hrr11_9 : ∀ b, kd b = 11 → fldR (f b) 9 = fldR (f b) 9 := fun _ _ => rfl
  have hrr11_10 : ∀ b, kd b = 11 → fldR (f b) 10 = fldR (f b) 10 := fun _ _ => rfl
  have hrr11_16 : ∀ b, kd b = 11 → fldR (f b) 16 = fldR (f b) 16 := fun _ _ => rfl
  have hrr3_0 : ∀ b, kd b = 3 → fldR (f b) 0 = fldR (f b) 0 := fun _ _ => rfl
  have hrr3_3 : ∀ b, kd b = 3 → fldR (f b) 3 = fldR (f b) 3 := fun _ _ => rfl
  have hrA12 : ∀ b, kd b = 12 → ∀ j, fldR (f b) j = fldR (f b) j := fun _ _ _ => rfl
  obtain ⟨a_2, v_3, a_4, a_5, a_6, a_7, a_8, a_9, v_10, a_11, a_12, a_13, v_14, v_15, a_16, v_17, a_18, a_19, v_20, hfo_1, ⟨ma_2, ka_2⟩, bv_3, ⟨ma_4, ka_4⟩, ⟨ma_5, ka_5⟩, ⟨ma_6, ka_6⟩, ⟨ma_7, ka_7⟩, ⟨ma_8, ka_8⟩, ⟨ma_9, ka_9⟩, bv_10, ⟨ma_11, ka_11⟩, ⟨ma_12, ka_12⟩, ⟨ma_13, ka_13⟩, bv_14, ⟨ma_16, ka_16⟩, bv_17, ⟨ma_18, ka_18⟩, ⟨ma_19, ka_19⟩⟩ := un_11 (hG _ mo1) ko1
  have bv_15 : ((-2147483648) ≤ v_15.toInt ∧ v_15.toInt ≤ 2147483647) := ⟨i32_lo _, i32_hi _⟩
  have bv_20 : ((-2147483648) ≤ v_20.toInt ∧ v_20.toInt ≤ 2147483647) := ⟨i32_lo _, i32_hi _⟩
  obtain ⟨a_21, a_22, a_23, v_24, a_25, v_26, v_27, v_28, v_29, v_30, v_31, v_32, v_33, v_34, v_35, a_36, a_37, a_38, a_39, a_40, a_41, a_42, a_43, v_44, v_45, v_46, v_47, v_48, a_49, v_50, a_51, a_52, v_53, v_54, a_55, v_56, a_57, a_58, v_59, v_60, a_61, a_62, a_63, v_64, a_65, a_66, a_67, a_68, a_69, a_70, a_71, a_72, a_73, v_74, v_75, a_76, hfo_77, fa_78⟩ := un12 (hG _ mo2) ko2
  have bv_24 : (0 ≤ v_24.toInt ∧ v_24.toInt ≤ 1) := fa12_3 fa_78
  have bv_26 : (0 ≤ v_26.toInt ∧ v_26.toInt ≤ 600) := fa12_5 fa_78
  have bv_50 : (0 ≤ v_50.toInt ∧ v_50.toInt ≤ 201) := fa12_29 fa_78
  have hT0 := hxtr0 a_5 (by rw [hfo_1]; rfl)
  have hT1 := hxtr1 a_8 (by rw [hfo_1]; rfl)
  obtain ⟨a_80, a_81, a_82, a_83, a_84, v_85, v_86, v_87, v_88, v_89, v_90, v_91, a_92, a_93, a_94, v_95, a_96, a_97, hfo_79, ⟨ma_80, ka_80⟩, ⟨ma_81, ka_81⟩, ⟨ma_82, ka_82⟩, ⟨ma_83, ka_83⟩, ⟨ma_84, ka_84⟩, bv_85, bv_86, bv_87, ⟨ma_92, ka_92⟩, ⟨ma_93, ka_93⟩, ⟨ma_94, ka_94⟩, bv_95, ⟨ma_96, ka_96⟩, ⟨ma_97, ka_97⟩⟩ := un_3 (hG _ ma_4) ka_4
  have bv_88 : ((-2147483648) ≤ v_88.toInt ∧ v_88.toInt ≤ 2147483647) := ⟨i32_lo _, i32_hi _⟩
  have bv_89 : ((-2147483648) ≤ v_89.toInt ∧ v_89.toInt ≤ 2147483647) := ⟨i32_lo _, i32_hi _⟩
  have bv_90 : ((-2147483648) ≤ v_90.toInt ∧ v_90.toInt ≤ 2147483647) := ⟨i32_lo _, i32_hi _⟩
  have bv_91 : ((-2147483648) ≤ v_91.toInt ∧ v_91.toInt ≤ 2147483647) := ⟨i32_lo _, i32_hi _⟩
  have hT2 := hxtr2 a_4 a_83 (by rw [hfo_1]; rfl) (by rw [hfo_79]; rfl)
  have hT3 := hxtr3
  have hT4 := hxtr4
  have hT5 := hxtr5
  have hT6 := hxtr6
  have h29 := hx29 v_50 (by rw [hfo_77]; rfl)
  have htp := hxtp v_3 v_26 (by rw [hfo_1]; rfl) (by rw [hfo_77]; rfl)
  have him := hxim v_10 v_24 (by rw [hfo_1]; rfl) (by rw [hfo_77]; rfl)
  refine lv_aload_n hx hb dL_law_838 rfl (lv_at hl 2 rfl) ?_
  refine lv_aload_n hx hb dL_law_839 rfl (lv_at hl 1 rfl) ?_
  refine lv_iload_n hx hb dL_law_840 rfl (lv_at hl 0 rfl) ?_
  refine lv_iconst (v := 1) hx hb dL_law_841 (by decide) ?_
  refine lv_iadd hx hb dL_law_842 ?_
  refine lv_topi (fun x_98 ex_98 => ?_)
  have hx_98 : x_98.toInt = i0.toInt + 1 := by rw [ex_98, ad_I (by rw [ti_1]; omega) (by rw [ti_1]; omega), ti_1]
  have bx_98 : (1 ≤ x_98.toInt ∧ x_98.toInt ≤ 379) := by constructor <;> omega
  refine va_sld hx hb hX hbl hbA hS (vp_in_iff.mpr (by constructor <;> omega)) dL_law_843 ?_
  refine lv_topi (fun x_99 ex_99 => ?_)
  have bx_99 : ((-2147483648) ≤ x_99.toInt ∧ x_99.toInt ≤ 2147483647) := ⟨i32_lo _, i32_hi _⟩
  refine lv_aload_n hx hb dL_law_844 rfl (lv_at hl 1 rfl) ?_
  refine lv_iload_n hx hb dL_law_845 rfl (lv_at hl 0 rfl) ?_
  refine lv_iconst (v := 2) hx hb dL_law_846 (by decide) ?_
  refine lv_iadd hx hb dL_law_847 ?_
  refine lv_topi (fun x_100 ex_100 => ?_)
  have hx_100 : x_100.toInt = i0.toInt + 2 := by rw [ex_100, ad_I (by rw [ti_2]; omega) (by rw [ti_2]; omega), ti_2]
  have bx_100 : (2 ≤ x_100.toInt ∧ x_100.toInt ≤ 380) := by constructor <;> omega
  refine va_sld hx hb hX hbl hbA hS (vp_in_iff.mpr (by constructor <;> omega)) dL_law_848 ?_
  refine lv_topi (fun x_101 ex_101 => ?_)
  have bx_101 : ((-2147483648) ≤ x_101.toInt ∧ x_101.toInt ≤ 2147483647) := ⟨i32_lo _, i32_hi _⟩
  refine tk_ViP (As := [.int x_99, .int x_101]) (rest := []) (n := 2) hx hb hml hown hU hN hZ (s_X11_rule_k11 l (dC, dI) cI cL cZ cR cG cH Z kd L f hG o1 mo1 ko1 x_99 x_101) wd_1456 wd_1457 wd_1458 wd_2 wd_1459 (by decide +kernel) ⟨Nat.le_of_ble_eq_true rfl, Nat.le_of_ble_eq_true rfl⟩ hK hP hD hS mo1 hfo_1 11 rfl rfl rfl hl.1 rfl (Nat.le_of_ble_eq_true rfl) dL_law_849 ⟨Nat.le_of_ble_eq_true rfl, Nat.le_of_ble_eq_true rfl⟩ (fun x_102 f_103 H locs hw hP hD hS => ?_)
  obtain ⟨rfl, bx_102⟩ := hw
  refine lv_pop hx hb dL_law_852 rfl ?_
  refine lv_aload_n hx hb dL_law_853 rfl (lv_at hl 3 rfl) ?_
  refine lv_aload_n hx hb dL_law_854 rfl (lv_at hl 1 rfl) ?_
  refine lv_iload_n hx hb dL_law_855 rfl (lv_at hl 0 rfl) ?_
  refine lv_iconst (v := 1) hx hb dL_law_856 (by decide) ?_
  refine lv_iadd hx hb dL_law_857 ?_
  refine lv_topi (fun x_105 ex_105 => ?_)
  have hx_105 : x_105.toInt = i0.toInt + 1 := by rw [ex_105, ad_I (by rw [ti_1]; omega) (by rw [ti_1]; omega), ti_1]
  have bx_105 : (1 ≤ x_105.toInt ∧ x_105.toInt ≤ 379) := by constructor <;> omega
  refine va_sld hx hb hX hbl hbA hS (vp_in_iff.mpr (by constructor <;> omega)) dL_law_858 ?_
  refine lv_topi (fun x_106 ex_106 => ?_)
  have bx_106 : ((-2147483648) ≤ x_106.toInt ∧ x_106.toInt ≤ 2147483647) := ⟨i32_lo _, i32_hi _⟩
  have hsmx_106 : x_106.toInt = x_99.toInt := by rw [ex_106, ex_105, ex_99, ex_98]
  refine lv_aload_n hx hb dL_law_859 rfl (lv_at hl 1 rfl) ?_
  refine lv_iload_n hx hb dL_law_860 rfl (lv_at hl 0 rfl) ?_
  refine lv_iconst (v := 2) hx hb dL_law_861 (by decide) ?_
  refine lv_iadd hx hb dL_law_862 ?_
  refine lv_topi (fun x_107 ex_107 => ?_)
  have hx_107 : x_107.toInt = i0.toInt + 2 := by rw [ex_107, ad_I (by rw [ti_2]; omega) (by rw [ti_2]; omega), ti_2]
  have bx_107 : (2 ≤ x_107.toInt ∧ x_107.toInt ≤ 380) := by constructor <;> omega
  refine va_sld hx hb hX hbl hbA hS (vp_in_iff.mpr (by constructor <;> omega)) dL_law_863 ?_
  refine lv_topi (fun x_108 ex_108 => ?_)
  have bx_108 : ((-2147483648) ≤ x_108.toInt ∧ x_108.toInt ≤ 2147483647) := ⟨i32_lo _, i32_hi _⟩
  have hsmx_108 : x_108.toInt = x_101.toInt := by rw [ex_108, ex_107, ex_101, ex_100]
  refine tk_ViP (As := [.int x_106, .int x_108]) (rest := []) (n := 2) hx hb hml hown hU hN hZ (s_X12_rule_k12 l (dC, dI) cI cL cZ cR cG cH Z kd L f hG o2 mo2 ko2 x_106 x_108) wd_1464 wd_1465 wd_1466 wd_5 wd_1467 (by decide +kernel) ⟨Nat.le_of_ble_eq_true rfl, Nat.le_of_ble_eq_true rfl⟩ hK hP hD hS mo2 hfo_77 12 rfl rfl rfl hl.1 rfl (Nat.le_of_ble_eq_true rfl) dL_law_864 ⟨Nat.le_of_ble_eq_true rfl, Nat.le_of_ble_eq_true rfl⟩ (fun x_109 f_110 H locs hw hP hD hS => ?_)
  obtain ⟨rfl, bx_109⟩ := hw
  refine lv_pop hx hb dL_law_867 rfl ?_
  refine lv_goto (tgt := 933) hx hb dL_law_868 (by decide) ?_
  exact kk f _ _ hG hP hD hS ⟨(fun d9 h9 => by rw [hfo_1] at h9; obtain rfl := Option.some.inj h9; exact hT0), (fun d9 h9 => by rw [hfo_1] at h9; obtain rfl := Option.some.inj h9; exact hT1), (fun r9 d9 h8 h9 => by rw [hfo_1] at h8; obtain rfl := Option.some.inj h8; rw [hfo_79] at h9; obtain rfl := Option.some.inj h9; exact hT2), hT3, hT4, hT5, hT6, (fun z9 h9 => by rw [hfo_77] at h9; obtain rfl := Option.some.inj h9; omega), (fun y9 z9 h8 h9 => by rw [hfo_1] at h8; obtain rfl := Option.some.inj h8; rw [hfo_77] at h9; obtain rfl := Option.some.inj h9; omega), (fun y9 z9 h8 h9 => by rw [hfo_1] at h8; obtain rfl := Option.some.inj h8; rw [hfo_77] at h9; obtain rfl := Option.some.inj h9; omega)⟩ ls (lv_sub hl [0, 1, 2, 3] rfl)
set_option maxHeartbeats 8000000 in
set_option maxRecDepth 100000 in
theorem law_c27 {p : Program} {l : Launch} {e : Env} {s : State} {m : MethodId} {below : List Frame} {meth : Method} {c : Code} {dC : Nat → ClassId} {dI : Nat → Nat → Nat} {cI cL cZ cR cG cH : ClassId} {Z : zT} {kd : Nat → Nat} {L : List Nat} {b Ln : Nat} {xs : Nat → Int32} (hLn : Ln ≤ 384) (C0 : lw_At p s m meth c b Ln xs) (hK : va_K (dC, dI) vwCl (TY6 cI cL cZ cR cG cH) s) (hN : nsW s) (hZ : zW Z L s) (hLs : ∀ q ∈ L, s.heap.size ≤ q) {o1 o2 : Nat} (mo1 : o1 ∈ L) (ko1 : kd o1 = 11) (mo2 : o2 ∈ L) (ko2 : kd o2 = 12) {f : Nat → va_E} (hG : GI (okc cI cL cZ cR cG cH L kd) kd L f) {H : Heap} {locs : List Loc} (hP : va_P (dC, dI) vwCl (va_pl L f) H) (hD : va_D (fun q => q ∈ L) (va_pl L f)) (hS : va_S (fun q => q ∈ L) s.heap H locs) (hI : lawI kd f o1 o2) {i0 : Int32} (bi0 : 0 ≤ i0.toInt ∧ i0.toInt ≤ 378) (hi0 : i0.toInt + 6 ≤ (Ln : Int))
    (kk : ∀ (f1 : Nat → va_E) (H1 : Heap) (locs1 : List Loc), GI (okc cI cL cZ cR cG cH L kd) kd L f1 → va_P (dC, dI) vwCl (va_pl L f1) H1 → va_D (fun q => q ∈ L) (va_pl L f1) → va_S (fun q => q ∈ L) s.heap H1 locs1 → lawI kd f1 o1 o2 → ∀ (ls : Array Slot), lv_has ls 4 [(3, .int i0), (0, .ref b), (1, .ref o1), (2, .ref o2)] → W p l e room_1 s m #[Value.ref b] below meth c H1 locs1 559 115398 (lw_Z below #[Value.ref b] s) (F0 m 933 ls []))
    {ls : Array Slot} (hl : lv_has ls 4 [(3, .int i0), (0, .ref b), (1, .ref o1), (2, .ref o2)]) : W p l e room_1 s m #[Value.ref b] below meth c H locs 559 115398 (lw_Z below #[Value.ref b] s) (F0 m 871 ls []) := by
  obtain ⟨hx, hb, hr, hml, hown0, hts, hX, hbl, hlocks, hgv⟩ := C0
  have hown : s.vm.findClass RL = some m.cls := hown0
  have hU : ∀ w ∈ wsU, w.before #[Value.ref b] s = true := fun w h => hts w (wsU_in w h)
  have hbA : ¬ (fun q => q ∈ L) b := fun h => absurd (hLs b h) (Nat.not_le.mpr hbl)
  obtain ⟨hxtr0, hxtr1, hxtr2, hxtr3, hxtr4, hxtr5, hxtr6, hx29, hxtp, hxim⟩ := hI
  have hrr11_2 : ∀ b, kd b = 11 → fldR (f b) 2 = fldR (f b) 2 := fun _ _ => rfl
  have hrr11_3 : ∀ b, kd b = 11 → fldR (f b) 3 = fldR (f b) 3 := fun _ _ => rfl
  have hrr11_5 : ∀ b, kd b = 11 → fldR (f b) 5 = fldR (f b) 5 := fun _ _ => rfl
  have hrr11_6 : ∀ b, kd b = 11 → fldR (f b) 6 = fldR (f b) 6 := fun _ _ => rfl
  have hrr11_7 : ∀ b, kd b = 11 → fldR (f b) 7 = fldR (f b) 7 := fun _ _ => rfl
  have hrr11_9 : ∀ b, kd b = 11 → fldR (f b) 9 = fldR (f b) 9 := fun _ _ => rfl
  have hrr11_10 : ∀ b, kd b = 11 → fldR (f b) 10 = fldR (f b) 10 := fun _ _ => rfl
  have hrr11_16 : ∀ b, kd b = 11 → fldR (f b) 16 = fldR (f b) 16 := fun _ _ => rfl
  have hrr3_0 : ∀ b, kd b = 3 → fldR (f b) 0 = fldR (f b) 0 := fun _ _ => rfl
  have hrr3_3 : ∀ b, kd b = 3 → fldR (f b) 3 = fldR (f b) 3 := fun _ _ => rfl
  have hrA12 : ∀ b, kd b = 12 → ∀ j, fldR (f b) j = fldR (f b) j := fun _ _ _ => rfl
  obtain ⟨a_2, v_3, a_4, a_5, a_6, a_7, a_8, a_9, v_10, a_11, a_12, a_13, v_14, v_15, a_16, v_17, a_18, a_19, v_20, hfo_1, ⟨ma_2, ka_2⟩, bv_3, ⟨ma_4, ka_4⟩, ⟨ma_5, ka_5⟩, ⟨ma_6, ka_6⟩, ⟨ma_7, ka_7⟩, ⟨ma_8, ka_8⟩, ⟨ma_9, ka_9⟩, bv_10, ⟨ma_11, ka_11⟩, ⟨ma_12, ka_12⟩, ⟨ma_13, ka_13⟩, bv_14, ⟨ma_16, ka_16⟩, bv_17, ⟨ma_18, ka_18⟩, ⟨ma_19, ka_19⟩⟩ := un_11 (hG _ mo1) ko1
  have bv_15 : ((-2147483648) ≤ v_15.toInt ∧ v_15.toInt ≤ 2147483647) := ⟨i32_lo _, i32_hi _⟩
  have bv_20 : ((-2147483648) ≤ v_20.toInt ∧ v_20.toInt ≤ 2147483647) := ⟨i32_lo _, i32_hi _⟩
  obtain ⟨a_21, a_22, a_23, v_24, a_25, v_26, v_27, v_28, v_29, v_30, v_31, v_32, v_33, v_34, v_35, a_36, a_37, a_38, a_39, a_40, a_41, a_42, a_43, v_44, v_45, v_46, v_47, v_48, a_49, v_50, a_51, a_52, v_53, v_54, a_55, v_56, a_57, a_58, v_59, v_60, a_61, a_62, a_63, v_64, a_65, a_66, a_67, a_68, a_69, a_70, a_71, a_72, a_73, v_74, v_75, a_76, hfo_77, fa_78⟩ := un12 (hG _ mo2) ko2
  have bv_24 : (0 ≤ v_24.toInt ∧ v_24.toInt ≤ 1) := fa12_3 fa_78
  have bv_26 : (0 ≤ v_26.toInt ∧ v_26.toInt ≤ 600) := fa12_5 fa_78
  have bv_50 : (0 ≤ v_50.toInt ∧ v_50.toInt ≤ 201) := fa12_29 fa_78
  have hT0 := hxtr0 a_5 (by rw [hfo_1]; rfl)
  have hT1 := hxtr1 a_8 (by rw [hfo_1]; rfl)
  obtain ⟨a_80, a_81, a_82, a_83, a_84, v_85, v_86, v_87, v_88, v_89, v_90, v_91, a_92, a_93, a_94, v_95, a_96, a_97, hfo_79, ⟨ma_80, ka_80⟩, ⟨ma_81, ka_81⟩, ⟨ma_82, ka_82⟩, ⟨ma_83, ka_83⟩, ⟨ma_84, ka_84⟩, bv_85, bv_86, bv_87, ⟨ma_92, ka_92⟩, ⟨ma_93, ka_93⟩, ⟨ma_94, ka_94⟩, bv_95, ⟨ma_96, ka_96⟩, ⟨ma_97, ka_97⟩⟩ := un_3 (hG _ ma_4) ka_4
  have bv_88 : ((-2147483648) ≤ v_88.toInt ∧ v_88.toInt ≤ 2147483647) := ⟨i32_lo _, i32_hi _⟩
  have bv_89 : ((-2147483648) ≤ v_89.toInt ∧ v_89.toInt ≤ 2147483647) := ⟨i32_lo _, i32_hi _⟩
  have bv_90 : ((-2147483648) ≤ v_90.toInt ∧ v_90.toInt ≤ 2147483647) := ⟨i32_lo _, i32_hi _⟩
  have bv_91 : ((-2147483648) ≤ v_91.toInt ∧ v_91.toInt ≤ 2147483647) := ⟨i32_lo _, i32_hi _⟩
  have hT2 := hxtr2 a_4 a_83 (by rw [hfo_1]; rfl) (by rw [hfo_79]; rfl)
  have hT3 := hxtr3
  have hT4 := hxtr4
  have hT5 := hxtr5
  have hT6 := hxtr6
  have h29 := hx29 v_50 (by rw [hfo_77]; rfl)
  have htp := hxtp v_3 v_26 (by rw [hfo_1]; rfl) (by rw [hfo_77]; rfl)
  have him := hxim v_10 v_24 (by rw [hfo_1]; rfl) (by rw [hfo_77]; rfl)
  refine lv_aload_n hx hb dL_law_871 rfl (lv_at hl 2 rfl) ?_
  refine lv_aload_n hx hb dL_law_872 rfl (lv_at hl 1 rfl) ?_
  refine lv_iload_n hx hb dL_law_873 rfl (lv_at hl 0 rfl) ?_
  refine lv_iconst (v := 1) hx hb dL_law_874 (by decide) ?_
  refine lv_iadd hx hb dL_law_875 ?_
  refine lv_topi (fun x_98 ex_98 => ?_)
  have hx_98 : x_98.toInt = i0.toInt + 1 := by rw [ex_98, ad_I (by rw [ti_1]; omega) (by rw [ti_1]; omega), ti_1]
  have bx_98 : (1 ≤ x_98.toInt ∧ x_98.toInt ≤ 379) := by constructor <;> omega
  refine va_sld hx hb hX hbl hbA hS (vp_in_iff.mpr (by constructor <;> omega)) dL_law_876 ?_
  refine lv_topi (fun x_99 ex_99 => ?_)
  have bx_99 : ((-2147483648) ≤ x_99.toInt ∧ x_99.toInt ≤ 2147483647) := ⟨i32_lo _, i32_hi _⟩
  have hcut_101 : ∀ (y_100 : Int32), (0 ≤ y_100.toInt ∧ y_100.toInt ≤ 1) → ((y_100.toInt = 0 ∧ x_99.toInt = 0) ∨ (y_100.toInt = 1 ∧ ¬ x_99.toInt = 0)) → ∀ (ls : Array Slot), lv_has ls 4 [(3, .int i0), (0, .ref b), (1, .ref o1), (2, .ref o2)] → W p l e room_1 s m #[Value.ref b] below meth c H locs 559 115398 (lw_Z below #[Value.ref b] s) (F0 m 885 ls [.int y_100, .ref o1]) := by
    intro y_100 by_100 hjhcut_101_0 ls hl
    refine tk_ViP (As := [.int y_100]) (rest := []) (n := 1) hx hb hml hown hU hN hZ (s_X11_image_k11_u l (dC, dI) cI cL cZ cR cG cH Z kd L f hG o1 mo1 ko1 y_100 (by constructor <;> omega) (fun d9 h9 => by rw [hfo_1] at h9; obtain rfl := Option.some.inj h9; exact hT0) (fun d9 h9 => by rw [hfo_1] at h9; obtain rfl := Option.some.inj h9; exact hT1) hT3 hT4) wd_1468 wd_1469 wd_1470 wd_2 wd_1471 (by decide +kernel) ⟨Nat.le_of_ble_eq_true rfl, Nat.le_of_ble_eq_true rfl⟩ hK hP hD hS mo1 hfo_1 11 rfl rfl rfl hl.1 rfl (Nat.le_of_ble_eq_true rfl) dL_law_885 ⟨Nat.le_of_ble_eq_true rfl, Nat.le_of_ble_eq_true rfl⟩ (fun x_102 f_103 H locs hw hP hD hS => ?_)
    obtain ⟨hG, bx_102, hkc_104, hfc_105, hrc_106, hrc_107, hrc_108, hrc_109, hrc_110, hrc_111, hrc_112, hrc_113, hrc_114, hrc_115, hrc_116, hrc_117, hrc_118, hrc_119, hpost_120, hTc_121, hTc_122, hTc_123, hTc_124⟩ := hw
    have hfo_126 : f_103 o2 = .inr (12, [.ref a_21, .ref a_22, .ref a_23, .int v_24, .ref a_25, .int v_26, .int v_27, .int v_28, .int v_29, .int v_30, .int v_31, .int v_32, .int v_33, .int v_34, .int v_35, .ref a_36, .ref a_37, .ref a_38, .ref a_39, .ref a_40, .ref a_41, .ref a_42, .ref a_43, .int v_44, .int v_45, .int v_46, .int v_47, .int v_48, .ref a_49, .int v_50, .ref a_51, .ref a_52, .int v_53, .int v_54, .ref a_55, .int v_56, .ref a_57, .ref a_58, .int v_59, .int v_60, .ref a_61, .ref a_62, .ref a_63, .int v_64, .ref a_65, .ref a_66, .ref a_67, .ref a_68, .ref a_69, .ref a_70, .ref a_71, .ref a_72, .ref a_73, .int v_74, .int v_75, .ref a_76]) := by rw [hkc_104 o2 (by rw [ko2]; decide) (by rw [ko2]; decide) (by rw [ko2]; decide) (by rw [ko2]; decide) (by rw [ko2]; decide) (by rw [ko2]; decide) (by rw [ko2]; decide) (by rw [ko2]; decide) (by rw [ko2]; decide) (by rw [ko2]; decide) (by rw [ko2]; decide) (by rw [ko2]; decide) (by rw [ko2]; decide) (by rw [ko2]; decide) (by rw [ko2]; decide) (by rw [ko2]; decide) (by rw [ko2]; decide) (by rw [ko2]; decide) (by rw [ko2]; decide) (by rw [ko2]; decide) (by rw [ko2]; decide) (by rw [ko2]; decide) (by rw [ko2]; decide) (by rw [ko2]; decide) (by rw [ko2]; decide) (by rw [ko2]; decide) (by rw [ko2]; decide) (by rw [ko2]; decide) (by rw [ko2]; decide) (by rw [ko2]; decide) (by rw [ko2]; decide) (by rw [ko2]; decide) (by rw [ko2]; decide) (by rw [ko2]; decide) (by rw [ko2]; decide) (by rw [ko2]; decide) (by rw [ko2]; decide) (by rw [ko2]; decide) (by rw [ko2]; decide) (by rw [ko2]; decide)]; exact hfo_77
    have hfo_127 : f_103 a_4 = .inr (3, [.ref a_80, .ref a_81, .ref a_82, .ref a_83, .ref a_84, .int v_85, .int v_86, .int v_87, .int v_88, .int v_89, .int v_90, .int v_91, .ref a_92, .ref a_93, .ref a_94, .int v_95, .ref a_96, .ref a_97]) := by rw [hkc_104 a_4 (by rw [ka_4]; decide) (by rw [ka_4]; decide) (by rw [ka_4]; decide) (by rw [ka_4]; decide) (by rw [ka_4]; decide) (by rw [ka_4]; decide) (by rw [ka_4]; decide) (by rw [ka_4]; decide) (by rw [ka_4]; decide) (by rw [ka_4]; decide) (by rw [ka_4]; decide) (by rw [ka_4]; decide) (by rw [ka_4]; decide) (by rw [ka_4]; decide) (by rw [ka_4]; decide) (by rw [ka_4]; decide) (by rw [ka_4]; decide) (by rw [ka_4]; decide) (by rw [ka_4]; decide) (by rw [ka_4]; decide) (by rw [ka_4]; decide) (by rw [ka_4]; decide) (by rw [ka_4]; decide) (by rw [ka_4]; decide) (by rw [ka_4]; decide) (by rw [ka_4]; decide) (by rw [ka_4]; decide) (by rw [ka_4]; decide) (by rw [ka_4]; decide) (by rw [ka_4]; decide) (by rw [ka_4]; decide) (by rw [ka_4]; decide) (by rw [ka_4]; decide) (by rw [ka_4]; decide) (by rw [ka_4]; decide) (by rw [ka_4]; decide) (by rw [ka_4]; decide) (by rw [ka_4]; decide) (by rw [ka_4]; decide) (by rw [ka_4]; decide)]; exact hfo_79
    have hrr11_2 : ∀ b, kd b = 11 → fldR (f_103 b) 2 = fldR (f b) 2 := fun b kb => (hrc_109 b kb).trans (hrr11_2 b kb)
    have hrr11_3 : ∀ b, kd b = 11 → fldR (f_103 b) 3 = fldR (f b) 3 := fun b kb => (hrc_110 b kb).trans (hrr11_3 b kb)
    have hrr11_5 : ∀ b, kd b = 11 → fldR (f_103 b) 5 = fldR (f b) 5 := fun b kb => (hrc_111 b kb).trans (hrr11_5 b kb)
    have hrr11_6 : ∀ b, kd b = 11 → fldR (f_103 b) 6 = fldR (f b) 6 := fun b kb => (hrc_112 b kb).trans (hrr11_6 b kb)
    have hrr11_7 : ∀ b, kd b = 11 → fldR (f_103 b) 7 = fldR (f b) 7 := fun b kb => (hrc_113 b kb).trans (hrr11_7 b kb)
    have hrr11_9 : ∀ b, kd b = 11 → fldR (f_103 b) 9 = fldR (f b) 9 := fun b kb => (hrc_114 b kb).trans (hrr11_9 b kb)
    have hrr11_10 : ∀ b, kd b = 11 → fldR (f_103 b) 10 = fldR (f b) 10 := fun b kb => (hrc_115 b kb).trans (hrr11_10 b kb)
    have hrr11_16 : ∀ b, kd b = 11 → fldR (f_103 b) 16 = fldR (f b) 16 := fun b kb => (hrc_116 b kb).trans (hrr11_16 b kb)
    have hrr3_0 : ∀ b, kd b = 3 → fldR (f_103 b) 0 = fldR (f b) 0 := fun b kb => (congrArg (fun x => fldR x 0) (hkc_104 b (by rw [kb]; decide) (by rw [kb]; decide) (by rw [kb]; decide) (by rw [kb]; decide) (by rw [kb]; decide) (by rw [kb]; decide) (by rw [kb]; decide) (by rw [kb]; decide) (by rw [kb]; decide) (by rw [kb]; decide) (by rw [kb]; decide) (by rw [kb]; decide) (by rw [kb]; decide) (by rw [kb]; decide) (by rw [kb]; decide) (by rw [kb]; decide) (by rw [kb]; decide) (by rw [kb]; decide) (by rw [kb]; decide) (by rw [kb]; decide) (by rw [kb]; decide) (by rw [kb]; decide) (by rw [kb]; decide) (by rw [kb]; decide) (by rw [kb]; decide) (by rw [kb]; decide) (by rw [kb]; decide) (by rw [kb]; decide) (by rw [kb]; decide) (by rw [kb]; decide) (by rw [kb]; decide) (by rw [kb]; decide) (by rw [kb]; decide) (by rw [kb]; decide) (by rw [kb]; decide) (by rw [kb]; decide) (by rw [kb]; decide) (by rw [kb]; decide) (by rw [kb]; decide) (by rw [kb]; decide))).trans (hrr3_0 b kb)
    have hrr3_3 : ∀ b, kd b = 3 → fldR (f_103 b) 3 = fldR (f b) 3 := fun b kb => (congrArg (fun x => fldR x 3) (hkc_104 b (by rw [kb]; decide) (by rw [kb]; decide) (by rw [kb]; decide) (by rw [kb]; decide) (by rw [kb]; decide) (by rw [kb]; decide) (by rw [kb]; decide) (by rw [kb]; decide) (by rw [kb]; decide) (by rw [kb]; decide) (by rw [kb]; decide) (by rw [kb]; decide) (by rw [kb]; decide) (by rw [kb]; decide) (by rw [kb]; decide) (by rw [kb]; decide) (by rw [kb]; decide) (by rw [kb]; decide) (by rw [kb]; decide) (by rw [kb]; decide) (by rw [kb]; decide) (by rw [kb]; decide) (by rw [kb]; decide) (by rw [kb]; decide) (by rw [kb]; decide) (by rw [kb]; decide) (by rw [kb]; decide) (by rw [kb]; decide) (by rw [kb]; decide) (by rw [kb]; decide) (by rw [kb]; decide) (by rw [kb]; decide) (by rw [kb]; decide) (by rw [kb]; decide) (by rw [kb]; decide) (by rw [kb]; decide) (by rw [kb]; decide) (by rw [kb]; decide) (by rw [kb]; decide) (by rw [kb]; decide))).trans (hrr3_3 b kb)
    have hrA12 : ∀ b, kd b = 12 → ∀ j, fldR (f_103 b) j = fldR (f b) j := fun b kb j => (congrArg (fun x => fldR x j) (hkc_104 b (by rw [kb]; decide) (by rw [kb]; decide) (by rw [kb]; decide) (by rw [kb]; decide) (by rw [kb]; decide) (by rw [kb]; decide) (by rw [kb]; decide) (by rw [kb]; decide) (by rw [kb]; decide) (by rw [kb]; decide) (by rw [kb]; decide) (by rw [kb]; decide) (by rw [kb]; decide) (by rw [kb]; decide) (by rw [kb]; decide) (by rw [kb]; decide) (by rw [kb]; decide) (by rw [kb]; decide) (by rw [kb]; decide) (by rw [kb]; decide) (by rw [kb]; decide) (by rw [kb]; decide) (by rw [kb]; decide) (by rw [kb]; decide) (by rw [kb]; decide) (by rw [kb]; decide) (by rw [kb]; decide) (by rw [kb]; decide) (by rw [kb]; decide) (by rw [kb]; decide) (by rw [kb]; decide) (by rw [kb]; decide) (by rw [kb]; decide) (by rw [kb]; decide) (by rw [kb]; decide) (by rw [kb]; decide) (by rw [kb]; decide) (by rw [kb]; decide) (by rw [kb]; decide) (by rw [kb]; decide))).trans (hrA12 b kb j)
    have hT2 : drel kd 1 521 522 f_103 a_83 := hT2.keep (fun b q => congrArg (fun x => fldI x 5) (hkc_104 b (by rw [q]; decide) (by rw [q]; decide) (by rw [q]; decide) (by rw [q]; decide) (by rw [q]; decide) (by rw [q]; decide) (by rw [q]; decide) (by rw [q]; decide) (by rw [q]; decide) (by rw [q]; decide) (by rw [q]; decide) (by rw [q]; decide) (by rw [q]; decide) (by rw [q]; decide) (by rw [q]; decide) (by rw [q]; decide) (by rw [q]; decide) (by rw [q]; decide) (by rw [q]; decide) (by rw [q]; decide) (by rw [q]; decide) (by rw [q]; decide) (by rw [q]; decide) (by rw [q]; decide) (by rw [q]; decide) (by rw [q]; decide) (by rw [q]; decide) (by rw [q]; decide) (by rw [q]; decide) (by rw [q]; decide) (by rw [q]; decide) (by rw [q]; decide) (by rw [q]; decide) (by rw [q]; decide) (by rw [q]; decide) (by rw [q]; decide) (by rw [q]; decide) (by rw [q]; decide) (by rw [q]; decide) (by rw [q]; decide))) (fun b q => congrArg (fun x => fldR x 0) (hkc_104 b (by rw [q]; decide) (by rw [q]; decide) (by rw [q]; decide) (by rw [q]; decide) (by rw [q]; decide) (by rw [q]; decide) (by rw [q]; decide) (by rw [q]; decide) (by rw [q]; decide) (by rw [q]; decide) (by rw [q]; decide) (by rw [q]; decide) (by rw [q]; decide) (by rw [q]; decide) (by rw [q]; decide) (by rw [q]; decide) (by rw [q]; decide) (by rw [q]; decide) (by rw [q]; decide) (by rw [q]; decide) (by rw [q]; decide) (by rw [q]; decide) (by rw [q]; decide) (by rw [q]; decide) (by rw [q]; decide) (by rw [q]; decide) (by rw [q]; decide) (by rw [q]; decide) (by rw [q]; decide) (by rw [q]; decide) (by rw [q]; decide) (by rw [q]; decide) (by rw [q]; decide) (by rw [q]; decide) (by rw [q]; decide) (by rw [q]; decide) (by rw [q]; decide) (by rw [q]; decide) (by rw [q]; decide) (by rw [q]; decide))) (fun b q => congrArg (fun x => fldR x 1) (hkc_104 b (by rw [q]; decide) (by rw [q]; decide) (by rw [q]; decide) (by rw [q]; decide) (by rw [q]; decide) (by rw [q]; decide) (by rw [q]; decide) (by rw [q]; decide) (by rw [q]; decide) (by rw [q]; decide) (by rw [q]; decide) (by rw [q]; decide) (by rw [q]; decide) (by rw [q]; decide) (by rw [q]; decide) (by rw [q]; decide) (by rw [q]; decide) (by rw [q]; decide) (by rw [q]; decide) (by rw [q]; decide) (by rw [q]; decide) (by rw [q]; decide) (by rw [q]; decide) (by rw [q]; decide) (by rw [q]; decide) (by rw [q]; decide) (by rw [q]; decide) (by rw [q]; decide) (by rw [q]; decide) (by rw [q]; decide) (by rw [q]; decide) (by rw [q]; decide) (by rw [q]; decide) (by rw [q]; decide) (by rw [q]; decide) (by rw [q]; decide) (by rw [q]; decide) (by rw [q]; decide) (by rw [q]; decide) (by rw [q]; decide))) (fun b q => hkc_104 b (by rw [q]; decide) (by rw [q]; decide) (by rw [q]; decide) (by rw [q]; decide) (by rw [q]; decide) (by rw [q]; decide) (by rw [q]; decide) (by rw [q]; decide) (by rw [q]; decide) (by rw [q]; decide) (by rw [q]; decide) (by rw [q]; decide) (by rw [q]; decide) (by rw [q]; decide) (by rw [q]; decide) (by rw [q]; decide) (by rw [q]; decide) (by rw [q]; decide) (by rw [q]; decide) (by rw [q]; decide) (by rw [q]; decide) (by rw [q]; decide) (by rw [q]; decide) (by rw [q]; decide) (by rw [q]; decide) (by rw [q]; decide) (by rw [q]; decide) (by rw [q]; decide) (by rw [q]; decide) (by rw [q]; decide) (by rw [q]; decide) (by rw [q]; decide) (by rw [q]; decide) (by rw [q]; decide) (by rw [q]; decide) (by rw [q]; decide) (by rw [q]; decide) (by rw [q]; decide) (by rw [q]; decide) (by rw [q]; decide)) (fun b q => hkc_104 b (by rw [q]; decide) (by rw [q]; decide) (by rw [q]; decide) (by rw [q]; decide) (by rw [q]; decide) (by rw [q]; decide) (by rw [q]; decide) (by rw [q]; decide) (by rw [q]; decide) (by rw [q]; decide) (by rw [q]; decide) (by rw [q]; decide) (by rw [q]; decide) (by rw [q]; decide) (by rw [q]; decide) (by rw [q]; decide) (by rw [q]; decide) (by rw [q]; decide) (by rw [q]; decide) (by rw [q]; decide) (by rw [q]; decide) (by rw [q]; decide) (by rw [q]; decide) (by rw [q]; decide) (by rw [q]; decide) (by rw [q]; decide) (by rw [q]; decide) (by rw [q]; decide) (by rw [q]; decide) (by rw [q]; decide) (by rw [q]; decide) (by rw [q]; decide) (by rw [q]; decide) (by rw [q]; decide) (by rw [q]; decide) (by rw [q]; decide) (by rw [q]; decide) (by rw [q]; decide) (by rw [q]; decide) (by rw [q]; decide))
    have hT5 : alrel kd f_103 o1 := hT5.keep (fun b q => hrc_109 b q) (fun b q => hrc_110 b q) (fun b q => congrArg (fun x => fldR x 0) (hkc_104 b (by rw [q]; decide) (by rw [q]; decide) (by rw [q]; decide) (by rw [q]; decide) (by rw [q]; decide) (by rw [q]; decide) (by rw [q]; decide) (by rw [q]; decide) (by rw [q]; decide) (by rw [q]; decide) (by rw [q]; decide) (by rw [q]; decide) (by rw [q]; decide) (by rw [q]; decide) (by rw [q]; decide) (by rw [q]; decide) (by rw [q]; decide) (by rw [q]; decide) (by rw [q]; decide) (by rw [q]; decide) (by rw [q]; decide) (by rw [q]; decide) (by rw [q]; decide) (by rw [q]; decide) (by rw [q]; decide) (by rw [q]; decide) (by rw [q]; decide) (by rw [q]; decide) (by rw [q]; decide) (by rw [q]; decide) (by rw [q]; decide) (by rw [q]; decide) (by rw [q]; decide) (by rw [q]; decide) (by rw [q]; decide) (by rw [q]; decide) (by rw [q]; decide) (by rw [q]; decide) (by rw [q]; decide) (by rw [q]; decide)))
    have hT6 : srel kd 592 f_103 o2 := hT6.keep (fun b q => congrArg (fun x => fldR x 30) (hkc_104 b (by rw [q]; decide) (by rw [q]; decide) (by rw [q]; decide) (by rw [q]; decide) (by rw [q]; decide) (by rw [q]; decide) (by rw [q]; decide) (by rw [q]; decide) (by rw [q]; decide) (by rw [q]; decide) (by rw [q]; decide) (by rw [q]; decide) (by rw [q]; decide) (by rw [q]; decide) (by rw [q]; decide) (by rw [q]; decide) (by rw [q]; decide) (by rw [q]; decide) (by rw [q]; decide) (by rw [q]; decide) (by rw [q]; decide) (by rw [q]; decide) (by rw [q]; decide) (by rw [q]; decide) (by rw [q]; decide) (by rw [q]; decide) (by rw [q]; decide) (by rw [q]; decide) (by rw [q]; decide) (by rw [q]; decide) (by rw [q]; decide) (by rw [q]; decide) (by rw [q]; decide) (by rw [q]; decide) (by rw [q]; decide) (by rw [q]; decide) (by rw [q]; decide) (by rw [q]; decide) (by rw [q]; decide) (by rw [q]; decide))) (fun b q => congrArg (fun x => fldI x 32) (hkc_104 b (by rw [q]; decide) (by rw [q]; decide) (by rw [q]; decide) (by rw [q]; decide) (by rw [q]; decide) (by rw [q]; decide) (by rw [q]; decide) (by rw [q]; decide) (by rw [q]; decide) (by rw [q]; decide) (by rw [q]; decide) (by rw [q]; decide) (by rw [q]; decide) (by rw [q]; decide) (by rw [q]; decide) (by rw [q]; decide) (by rw [q]; decide) (by rw [q]; decide) (by rw [q]; decide) (by rw [q]; decide) (by rw [q]; decide) (by rw [q]; decide) (by rw [q]; decide) (by rw [q]; decide) (by rw [q]; decide) (by rw [q]; decide) (by rw [q]; decide) (by rw [q]; decide) (by rw [q]; decide) (by rw [q]; decide) (by rw [q]; decide) (by rw [q]; decide) (by rw [q]; decide) (by rw [q]; decide) (by rw [q]; decide) (by rw [q]; decide) (by rw [q]; decide) (by rw [q]; decide) (by rw [q]; decide) (by rw [q]; decide))) (fun b q => congrArg (fun x => fldI x 33) (hkc_104 b (by rw [q]; decide) (by rw [q]; decide) (by rw [q]; decide) (by rw [q]; decide) (by rw [q]; decide) (by rw [q]; decide) (by rw [q]; decide) (by rw [q]; decide) (by rw [q]; decide) (by rw [q]; decide) (by rw [q]; decide) (by rw [q]; decide) (by rw [q]; decide) (by rw [q]; decide) (by rw [q]; decide) (by rw [q]; decide) (by rw [q]; decide) (by rw [q]; decide) (by rw [q]; decide) (by rw [q]; decide) (by rw [q]; decide) (by rw [q]; decide) (by rw [q]; decide) (by rw [q]; decide) (by rw [q]; decide) (by rw [q]; decide) (by rw [q]; decide) (by rw [q]; decide) (by rw [q]; decide) (by rw [q]; decide) (by rw [q]; decide) (by rw [q]; decide) (by rw [q]; decide) (by rw [q]; decide) (by rw [q]; decide) (by rw [q]; decide) (by rw [q]; decide) (by rw [q]; decide) (by rw [q]; decide) (by rw [q]; decide))) (fun b q => hkc_104 b (by rw [q]; decide) (by rw [q]; decide) (by rw [q]; decide) (by rw [q]; decide) (by rw [q]; decide) (by rw [q]; decide) (by rw [q]; decide) (by rw [q]; decide) (by rw [q]; decide) (by rw [q]; decide) (by rw [q]; decide) (by rw [q]; decide) (by rw [q]; decide) (by rw [q]; decide) (by rw [q]; decide) (by rw [q]; decide) (by rw [q]; decide) (by rw [q]; decide) (by rw [q]; decide) (by rw [q]; decide) (by rw [q]; decide) (by rw [q]; decide) (by rw [q]; decide) (by rw [q]; decide) (by rw [q]; decide) (by rw [q]; decide) (by rw [q]; decide) (by rw [q]; decide) (by rw [q]; decide) (by rw [q]; decide) (by rw [q]; decide) (by rw [q]; decide) (by rw [q]; decide) (by rw [q]; decide) (by rw [q]; decide) (by rw [q]; decide) (by rw [q]; decide) (by rw [q]; decide) (by rw [q]; decide) (by rw [q]; decide))
    obtain ⟨a_129, v_130, a_131, a_132, a_133, a_134, a_135, a_136, v_137, a_138, a_139, a_140, v_141, v_142, a_143, v_144, a_145, a_146, v_147, hfo_128, ⟨ma_129, ka_129⟩, bv_130, ⟨ma_131, ka_131⟩, ⟨ma_132, ka_132⟩, ⟨ma_133, ka_133⟩, ⟨ma_134, ka_134⟩, ⟨ma_135, ka_135⟩, ⟨ma_136, ka_136⟩, bv_137, ⟨ma_138, ka_138⟩, ⟨ma_139, ka_139⟩, ⟨ma_140, ka_140⟩, bv_141, ⟨ma_143, ka_143⟩, bv_144, ⟨ma_145, ka_145⟩, ⟨ma_146, ka_146⟩⟩ := un_11 (hG _ mo1) ko1
    have bv_142 : ((-2147483648) ≤ v_142.toInt ∧ v_142.toInt ≤ 2147483647) := ⟨i32_lo _, i32_hi _⟩
    have bv_147 : ((-2147483648) ≤ v_147.toInt ∧ v_147.toInt ≤ 2147483647) := ⟨i32_lo _, i32_hi _⟩
    obtain rfl : a_4 = a_131 := by have hk9 := hrr11_2 o1 ko1; rw [hfo_128, hfo_1] at hk9; exact (Option.some.inj hk9).symm
    obtain rfl : a_5 = a_132 := by have hk9 := hrr11_3 o1 ko1; rw [hfo_128, hfo_1] at hk9; exact (Option.some.inj hk9).symm
    obtain rfl : a_7 = a_134 := by have hk9 := hrr11_5 o1 ko1; rw [hfo_128, hfo_1] at hk9; exact (Option.some.inj hk9).symm
    obtain rfl : a_8 = a_135 := by have hk9 := hrr11_6 o1 ko1; rw [hfo_128, hfo_1] at hk9; exact (Option.some.inj hk9).symm
    obtain rfl : a_9 = a_136 := by have hk9 := hrr11_7 o1 ko1; rw [hfo_128, hfo_1] at hk9; exact (Option.some.inj hk9).symm
    obtain rfl : a_11 = a_138 := by have hk9 := hrr11_9 o1 ko1; rw [hfo_128, hfo_1] at hk9; exact (Option.some.inj hk9).symm
    obtain rfl : a_12 = a_139 := by have hk9 := hrr11_10 o1 ko1; rw [hfo_128, hfo_1] at hk9; exact (Option.some.inj hk9).symm
    obtain rfl : a_18 = a_145 := by have hk9 := hrr11_16 o1 ko1; rw [hfo_128, hfo_1] at hk9; exact (Option.some.inj hk9).symm
    obtain rfl : v_3 = v_130 := by have hk9 := hfc_105 o1 ko1; rw [hfo_128, hfo_1] at hk9; exact (Option.some.inj hk9).symm
    have hqhpost_120 := hpost_120 v_10 v_137 (by rw [hfo_1]; rfl) (by rw [hfo_128]; rfl)
    have hT_148 := hTc_121 a_5 (by rw [hfo_128]; rfl)
    have hT_149 := hTc_122 a_8 (by rw [hfo_128]; rfl)
    refine lv_pop hx hb dL_law_888 rfl ?_
    refine lv_aload_n hx hb dL_law_889 rfl (lv_at hl 3 rfl) ?_
    refine lv_aload_n hx hb dL_law_890 rfl (lv_at hl 1 rfl) ?_
    refine lv_iload_n hx hb dL_law_891 rfl (lv_at hl 0 rfl) ?_
    refine lv_iconst (v := 1) hx hb dL_law_892 (by decide) ?_
    refine lv_iadd hx hb dL_law_893 ?_
    refine lv_topi (fun x_150 ex_150 => ?_)
    have hx_150 : x_150.toInt = i0.toInt + 1 := by rw [ex_150, ad_I (by rw [ti_1]; omega) (by rw [ti_1]; omega), ti_1]
    have bx_150 : (1 ≤ x_150.toInt ∧ x_150.toInt ≤ 379) := by constructor <;> omega
    refine va_sld hx hb hX hbl hbA hS (vp_in_iff.mpr (by constructor <;> omega)) dL_law_894 ?_
    refine lv_topi (fun x_151 ex_151 => ?_)
    have bx_151 : ((-2147483648) ≤ x_151.toInt ∧ x_151.toInt ≤ 2147483647) := ⟨i32_lo _, i32_hi _⟩
    have hsmx_151 : x_151.toInt = x_99.toInt := by rw [ex_151, ex_150, ex_99, ex_98]
    have hcut_153 : ∀ (y_152 : Int32), (0 ≤ y_152.toInt ∧ y_152.toInt ≤ 1) → ((y_152.toInt = 0 ∧ x_151.toInt = 0) ∨ (y_152.toInt = 1 ∧ ¬ x_151.toInt = 0)) → ∀ (ls : Array Slot), lv_has ls 4 [(3, .int i0), (0, .ref b), (1, .ref o1), (2, .ref o2)] → W p l e room_1 s m #[Value.ref b] below meth c H locs 559 115398 (lw_Z below #[Value.ref b] s) (F0 m 903 ls [.int y_152, .ref o2]) := by
      intro y_152 by_152 hjhcut_153_0 ls hl
      refine tk_ViP (As := [.int y_152]) (rest := []) (n := 1) hx hb hml hown hU hN hZ (s_X12_image_k12 l (dC, dI) cI cL cZ cR cG cH Z kd L f_103 hG o2 mo2 ko2 y_152 (by constructor <;> omega)) wd_1479 wd_1480 wd_1481 wd_5 wd_1482 (by decide +kernel) ⟨Nat.le_of_ble_eq_true rfl, Nat.le_of_ble_eq_true rfl⟩ hK hP hD hS mo2 hfo_126 12 rfl rfl rfl hl.1 rfl (Nat.le_of_ble_eq_true rfl) dL_law_903 ⟨Nat.le_of_ble_eq_true rfl, Nat.le_of_ble_eq_true rfl⟩ (fun x_154 f_155 H locs hw hP hD hS => ?_)
      obtain ⟨hG, bx_154, hkc_156, hra_157, hfa_158, hpost_159⟩ := hw
      have hfo_161 : f_155 a_4 = .inr (3, [.ref a_80, .ref a_81, .ref a_82, .ref a_83, .ref a_84, .int v_85, .int v_86, .int v_87, .int v_88, .int v_89, .int v_90, .int v_91, .ref a_92, .ref a_93, .ref a_94, .int v_95, .ref a_96, .ref a_97]) := by rw [hkc_156 a_4 (by rw [ka_4]; decide) (by rw [ka_4]; decide) (by rw [ka_4]; decide)]; exact hfo_127
      have hfo_162 : f_155 o1 = .inr (11, [.ref a_129, .int v_3, .ref a_4, .ref a_5, .ref a_133, .ref a_7, .ref a_8, .ref a_9, .int v_137, .ref a_11, .ref a_12, .ref a_140, .int v_141, .int v_142, .ref a_143, .int v_144, .ref a_18, .ref a_146, .int v_147]) := by rw [hkc_156 o1 (by rw [ko1]; decide) (by rw [ko1]; decide) (by rw [ko1]; decide)]; exact hfo_128
      have hrr11_2 : ∀ b, kd b = 11 → fldR (f_155 b) 2 = fldR (f b) 2 := fun b kb => (congrArg (fun x => fldR x 2) (hkc_156 b (by rw [kb]; decide) (by rw [kb]; decide) (by rw [kb]; decide))).trans (hrr11_2 b kb)
      have hrr11_3 : ∀ b, kd b = 11 → fldR (f_155 b) 3 = fldR (f b) 3 := fun b kb => (congrArg (fun x => fldR x 3) (hkc_156 b (by rw [kb]; decide) (by rw [kb]; decide) (by rw [kb]; decide))).trans (hrr11_3 b kb)
      have hrr11_5 : ∀ b, kd b = 11 → fldR (f_155 b) 5 = fldR (f b) 5 := fun b kb => (congrArg (fun x => fldR x 5) (hkc_156 b (by rw [kb]; decide) (by rw [kb]; decide) (by rw [kb]; decide))).trans (hrr11_5 b kb)
      have hrr11_6 : ∀ b, kd b = 11 → fldR (f_155 b) 6 = fldR (f b) 6 := fun b kb => (congrArg (fun x => fldR x 6) (hkc_156 b (by rw [kb]; decide) (by rw [kb]; decide) (by rw [kb]; decide))).trans (hrr11_6 b kb)
      have hrr11_7 : ∀ b, kd b = 11 → fldR (f_155 b) 7 = fldR (f b) 7 := fun b kb => (congrArg (fun x => fldR x 7) (hkc_156 b (by rw [kb]; decide) (by rw [kb]; decide) (by rw [kb]; decide))).trans (hrr11_7 b kb)
      have hrr11_9 : ∀ b, kd b = 11 → fldR (f_155 b) 9 = fldR (f b) 9 := fun b kb => (congrArg (fun x => fldR x 9) (hkc_156 b (by rw [kb]; decide) (by rw [kb]; decide) (by rw [kb]; decide))).trans (hrr11_9 b kb)
      have hrr11_10 : ∀ b, kd b = 11 → fldR (f_155 b) 10 = fldR (f b) 10 := fun b kb => (congrArg (fun x => fldR x 10) (hkc_156 b (by rw [kb]; decide) (by rw [kb]; decide) (by rw [kb]; decide))).trans (hrr11_10 b kb)
      have hrr11_16 : ∀ b, kd b = 11 → fldR (f_155 b) 16 = fldR (f b) 16 := fun b kb => (congrArg (fun x => fldR x 16) (hkc_156 b (by rw [kb]; decide) (by rw [kb]; decide) (by rw [kb]; decide))).trans (hrr11_16 b kb)
      have hrr3_0 : ∀ b, kd b = 3 → fldR (f_155 b) 0 = fldR (f b) 0 := fun b kb => (congrArg (fun x => fldR x 0) (hkc_156 b (by rw [kb]; decide) (by rw [kb]; decide) (by rw [kb]; decide))).trans (hrr3_0 b kb)
      have hrr3_3 : ∀ b, kd b = 3 → fldR (f_155 b) 3 = fldR (f b) 3 := fun b kb => (congrArg (fun x => fldR x 3) (hkc_156 b (by rw [kb]; decide) (by rw [kb]; decide) (by rw [kb]; decide))).trans (hrr3_3 b kb)
      have hrA12 : ∀ b, kd b = 12 → ∀ j, fldR (f_155 b) j = fldR (f b) j := fun b kb j => (hra_157 b kb j).trans (hrA12 b kb j)
      have hT2 : drel kd 1 521 522 f_155 a_83 := hT2.keep (fun b q => congrArg (fun x => fldI x 5) (hkc_156 b (by rw [q]; decide) (by rw [q]; decide) (by rw [q]; decide))) (fun b q => congrArg (fun x => fldR x 0) (hkc_156 b (by rw [q]; decide) (by rw [q]; decide) (by rw [q]; decide))) (fun b q => congrArg (fun x => fldR x 1) (hkc_156 b (by rw [q]; decide) (by rw [q]; decide) (by rw [q]; decide))) (fun b q => hkc_156 b (by rw [q]; decide) (by rw [q]; decide) (by rw [q]; decide)) (fun b q => hkc_156 b (by rw [q]; decide) (by rw [q]; decide) (by rw [q]; decide))
      have hT5 : alrel kd f_155 o1 := hT5.keep (fun b q => congrArg (fun x => fldR x 2) (hkc_156 b (by rw [q]; decide) (by rw [q]; decide) (by rw [q]; decide))) (fun b q => congrArg (fun x => fldR x 3) (hkc_156 b (by rw [q]; decide) (by rw [q]; decide) (by rw [q]; decide))) (fun b q => congrArg (fun x => fldR x 0) (hkc_156 b (by rw [q]; decide) (by rw [q]; decide) (by rw [q]; decide)))
      have hT6 : srel kd 592 f_155 o2 := hT6.keep (fun b q => hra_157 b q 30) (fun b q => hfa_158 b q 32 (by decide)) (fun b q => hfa_158 b q 33 (by decide)) (fun b q => hkc_156 b (by rw [q]; decide) (by rw [q]; decide) (by rw [q]; decide))
      have hT_148 : trel kd 7 508 510 515 4 f_155 a_5 := hT_148.keep (fun b q => hkc_156 b (by rw [q]; decide) (by rw [q]; decide) (by rw [q]; decide)) (fun b q => hkc_156 b (by rw [q]; decide) (by rw [q]; decide) (by rw [q]; decide)) (fun b q => hkc_156 b (by rw [q]; decide) (by rw [q]; decide) (by rw [q]; decide)) (fun b q => hkc_156 b (by rw [q]; decide) (by rw [q]; decide) (by rw [q]; decide)) (fun b q => congrArg (fun x => fldI x 1) (hkc_156 b (by rw [q]; decide) (by rw [q]; decide) (by rw [q]; decide)))
      have hT_149 : trel kd 107 549 551 556 104 f_155 a_8 := hT_149.keep (fun b q => hkc_156 b (by rw [q]; decide) (by rw [q]; decide) (by rw [q]; decide)) (fun b q => hkc_156 b (by rw [q]; decide) (by rw [q]; decide) (by rw [q]; decide)) (fun b q => hkc_156 b (by rw [q]; decide) (by rw [q]; decide) (by rw [q]; decide)) (fun b q => hkc_156 b (by rw [q]; decide) (by rw [q]; decide) (by rw [q]; decide)) (fun b q => congrArg (fun x => fldI x 1) (hkc_156 b (by rw [q]; decide) (by rw [q]; decide) (by rw [q]; decide)))
      have hTc_123 : urel kd 5 3 6 7 f_155 o1 := hTc_123.keep (fun b q => congrArg (fun x => fldR x 5) (hkc_156 b (by rw [q]; decide) (by rw [q]; decide) (by rw [q]; decide))) (fun b q => congrArg (fun x => fldR x 3) (hkc_156 b (by rw [q]; decide) (by rw [q]; decide) (by rw [q]; decide))) (fun b q => congrArg (fun x => fldI x 0) (hkc_156 b (by rw [q]; decide) (by rw [q]; decide) (by rw [q]; decide))) (fun b q => congrArg (fun x => fldI x 12) (hkc_156 b (by rw [q]; decide) (by rw [q]; decide) (by rw [q]; decide)))
      have hTc_124 : urel kd 7 6 106 107 f_155 o1 := hTc_124.keep (fun b q => congrArg (fun x => fldR x 7) (hkc_156 b (by rw [q]; decide) (by rw [q]; decide) (by rw [q]; decide))) (fun b q => congrArg (fun x => fldR x 6) (hkc_156 b (by rw [q]; decide) (by rw [q]; decide) (by rw [q]; decide))) (fun b q => congrArg (fun x => fldI x 0) (hkc_156 b (by rw [q]; decide) (by rw [q]; decide) (by rw [q]; decide))) (fun b q => congrArg (fun x => fldI x 12) (hkc_156 b (by rw [q]; decide) (by rw [q]; decide) (by rw [q]; decide)))
      obtain ⟨v_163, hfo_164, fa_165⟩ := op12_3 hfo_126 (hG _ mo2) ko2 (hra_157 o2 ko2) (hfa_158 o2 ko2)
      have bv_163 : (0 ≤ v_163.toInt ∧ v_163.toInt ≤ 1) := fa12_3 fa_165
      have hqhpost_159 := hpost_159 v_24 v_163 (by rw [hfo_126]; rfl) (by rw [hfo_164]; rfl)
      refine lv_pop hx hb dL_law_906 rfl ?_
      refine lv_goto (tgt := 933) hx hb dL_law_907 (by decide) ?_
      exact kk f_155 _ _ hG hP hD hS ⟨(fun d9 h9 => by rw [hfo_162] at h9; obtain rfl := Option.some.inj h9; exact hT_148), (fun d9 h9 => by rw [hfo_162] at h9; obtain rfl := Option.some.inj h9; exact hT_149), (fun r9 d9 h8 h9 => by rw [hfo_162] at h8; obtain rfl := Option.some.inj h8; rw [hfo_161] at h9; obtain rfl := Option.some.inj h9; exact hT2), hTc_123, hTc_124, hT5, hT6, (fun z9 h9 => by rw [hfo_164] at h9; obtain rfl := Option.some.inj h9; omega), (fun y9 z9 h8 h9 => by rw [hfo_162] at h8; obtain rfl := Option.some.inj h8; rw [hfo_164] at h9; obtain rfl := Option.some.inj h9; omega), (fun y9 z9 h8 h9 => by rw [hfo_162] at h8; obtain rfl := Option.some.inj h8; rw [hfo_164] at h9; obtain rfl := Option.some.inj h9; omega)⟩ ls (lv_sub hl [0, 1, 2, 3] rfl)
    refine lv_if_eq (tgt := 902) hx hb dL_law_895 (by decide) (fun c_166 => ?_) (fun c_166 => ?_)
    · skip
      rw [← Int32.toInt_inj, ti_0] at c_166
      refine lv_iconst (v := 0) hx hb dL_law_902 (by decide) ?_
      exact hcut_153 0 (by decide) (by (try rw [ti_0]) <;> omega) ls (lv_sub hl [0, 1, 2, 3] rfl)
    · skip
      rw [← Int32.toInt_inj, ti_0] at c_166
      refine lv_iconst (v := 1) hx hb dL_law_898 (by decide) ?_
      refine lv_goto (tgt := 903) hx hb dL_law_899 (by decide) ?_
      exact hcut_153 1 (by decide) (by (try rw [ti_1]) <;> omega) ls (lv_sub hl [0, 1, 2, 3] rfl)
  refine lv_if_eq (tgt := 884) hx hb dL_law_877 (by decide) (fun c_167 => ?_) (fun c_167 => ?_)
  · skip
    rw [← Int32.toInt_inj, ti_0] at c_167
    refine lv_iconst (v := 0) hx hb dL_law_884 (by decide) ?_
    exact hcut_101 0 (by decide) (by (try rw [ti_0]) <;> omega) ls (lv_sub hl [0, 1, 2, 3] rfl)
  · skip
    rw [← Int32.toInt_inj, ti_0] at c_167
    refine lv_iconst (v := 1) hx hb dL_law_880 (by decide) ?_
    refine lv_goto (tgt := 885) hx hb dL_law_881 (by decide) ?_
    exact hcut_101 1 (by decide) (by (try rw [ti_1]) <;> omega) ls (lv_sub hl [0, 1, 2, 3] rfl)
set_option maxHeartbeats 8000000 in
set_option maxRecDepth 100000 in
theorem law_c28 {p : Program} {l : Launch} {e : Env} {s : State} {m : MethodId} {below : List Frame} {meth : Method} {c : Code} {dC : Nat → ClassId} {dI : Nat → Nat → Nat} {cI cL cZ cR cG cH : ClassId} {Z : zT} {kd : Nat → Nat} {L : List Nat} {b Ln : Nat} {xs : Nat → Int32} (hLn : Ln ≤ 384) (C0 : lw_At p s m meth c b Ln xs) (hK : va_K (dC, dI) vwCl (TY6 cI cL cZ cR cG cH) s) (hN : nsW s) (hZ : zW Z L s) (hLs : ∀ q ∈ L, s.heap.size ≤ q) {o1 o2 : Nat} (mo1 : o1 ∈ L) (ko1 : kd o1 = 11) (mo2 : o2 ∈ L) (ko2 : kd o2 = 12) {f : Nat → va_E} (hG : GI (okc cI cL cZ cR cG cH L kd) kd L f) {H : Heap} {locs : List Loc} (hP : va_P (dC, dI) vwCl (va_pl L f) H) (hD : va_D (fun q => q ∈ L) (va_pl L f)) (hS : va_S (fun q => q ∈ L) s.heap H locs) (hI : lawI kd f o1 o2) {i0 : Int32} (bi0 : 0 ≤ i0.toInt ∧ i0.toInt ≤ 378) (hi0 : i0.toInt + 6 ≤ (Ln : Int))
    (kk : ∀ (f1 : Nat → va_E) (H1 : Heap) (locs1 : List Loc), GI (okc cI cL cZ cR cG cH L kd) kd L f1 → va_P (dC, dI) vwCl (va_pl L f1) H1 → va_D (fun q => q ∈ L) (va_pl L f1) → va_S (fun q => q ∈ L) s.heap H1 locs1 → lawI kd f1 o1 o2 → ∀ (ls : Array Slot), lv_has ls 4 [(3, .int i0), (0, .ref b), (1, .ref o1), (2, .ref o2)] → W p l e room_1 s m #[Value.ref b] below meth c H1 locs1 559 115398 (lw_Z below #[Value.ref b] s) (F0 m 933 ls []))
    {ls : Array Slot} (hl : lv_has ls 4 [(3, .int i0), (0, .ref b), (1, .ref o1), (2, .ref o2)]) : W p l e room_1 s m #[Value.ref b] below meth c H locs 559 115398 (lw_Z below #[Value.ref b] s) (F0 m 910 ls []) := by
  obtain ⟨hx, hb, hr, hml, hown0, hts, hX, hbl, hlocks, hgv⟩ := C0
  have hown : s.vm.findClass RL = some m.cls := hown0
  have hU : ∀ w ∈ wsU, w.before #[Value.ref b] s = true := fun w h => hts w (wsU_in w h)
  have hbA : ¬ (fun q => q ∈ L) b := fun h => absurd (hLs b h) (Nat.not_le.mpr hbl)
  obtain ⟨hxtr0, hxtr1, hxtr2, hxtr3, hxtr4, hxtr5, hxtr6, hx29, hxtp, hxim⟩ := hI
  have hrr11_2 : ∀ b, kd b = 11 → fldR (f b) 2 = fldR (f b) 2 := fun _ _ => rfl
  have hrr11_3 : ∀ b, kd b = 11 → fldR (f b) 3 = fldR (f b) 3 := fun _ _ => rfl
  have hrr11_5 : ∀ b, kd b = 11 → fldR (f b) 5 = fldR (f b) 5 := fun _ _ => rfl
  have hrr11_6 : ∀ b, kd b = 11 → fldR (f b) 6 = fldR (f b) 6 := fun _ _ => rfl
  have hrr11_7 : ∀ b, kd b = 11 → fldR (f b) 7 = fldR (f b) 7 := fun _ _ => rfl
  have hrr11_9 : ∀ b, kd b = 11 → fldR (f b) 9 = fldR (f b) 9 := fun _ _ => rfl
  have hrr11_10 : ∀ b, kd b = 11 → fldR (f b) 10 = fldR (f b) 10 := fun _ _ => rfl
  have hrr11_16 : ∀ b, kd b = 11 → fldR (f b) 16 = fldR (f b) 16 := fun _ _ => rfl
  have hrr3_0 : ∀ b, kd b = 3 → fldR (f b) 0 = fldR (f b) 0 := fun _ _ => rfl
  have hrr3_3 : ∀ b, kd b = 3 → fldR (f b) 3 = fldR (f b) 3 := fun _ _ => rfl
  have hrA12 : ∀ b, kd b = 12 → ∀ j, fldR (f b) j = fldR (f b) j := fun _ _ _ => rfl
  obtain ⟨a_2, v_3, a_4, a_5, a_6, a_7, a_8, a_9, v_10, a_11, a_12, a_13, v_14, v_15, a_16, v_17, a_18, a_19, v_20, hfo_1, ⟨ma_2, ka_2⟩, bv_3, ⟨ma_4, ka_4⟩, ⟨ma_5, ka_5⟩, ⟨ma_6, ka_6⟩, ⟨ma_7, ka_7⟩, ⟨ma_8, ka_8⟩, ⟨ma_9, ka_9⟩, bv_10, ⟨ma_11, ka_11⟩, ⟨ma_12, ka_12⟩, ⟨ma_13, ka_13⟩, bv_14, ⟨ma_16, ka_16⟩, bv_17, ⟨ma_18, ka_18⟩, ⟨ma_19, ka_19⟩⟩ := un_11 (hG _ mo1) ko1
  have bv_15 : ((-2147483648) ≤ v_15.toInt ∧ v_15.toInt ≤ 2147483647) := ⟨i32_lo _, i32_hi _⟩
  have bv_20 : ((-2147483648) ≤ v_20.toInt ∧ v_20.toInt ≤ 2147483647) := ⟨i32_lo _, i32_hi _⟩
  obtain ⟨a_21, a_22, a_23, v_24, a_25, v_26, v_27, v_28, v_29, v_30, v_31, v_32, v_33, v_34, v_35, a_36, a_37, a_38, a_39, a_40, a_41, a_42, a_43, v_44, v_45, v_46, v_47, v_48, a_49, v_50, a_51, a_52, v_53, v_54, a_55, v_56, a_57, a_58, v_59, v_60, a_61, a_62, a_63, v_64, a_65, a_66, a_67, a_68, a_69, a_70, a_71, a_72, a_73, v_74, v_75, a_76, hfo_77, fa_78⟩ := un12 (hG _ mo2) ko2
  have bv_24 : (0 ≤ v_24.toInt ∧ v_24.toInt ≤ 1) := fa12_3 fa_78
  have bv_26 : (0 ≤ v_26.toInt ∧ v_26.toInt ≤ 600) := fa12_5 fa_78
  have bv_50 : (0 ≤ v_50.toInt ∧ v_50.toInt ≤ 201) := fa12_29 fa_78
  have hT0 := hxtr0 a_5 (by rw [hfo_1]; rfl)
  have hT1 := hxtr1 a_8 (by rw [hfo_1]; rfl)
  obtain ⟨a_80, a_81, a_82, a_83, a_84, v_85, v_86, v_87, v_88, v_89, v_90, v_91, a_92, a_93, a_94, v_95, a_96, a_97, hfo_79, ⟨ma_80, ka_80⟩, ⟨ma_81, ka_81⟩, ⟨ma_82, ka_82⟩, ⟨ma_83, ka_83⟩, ⟨ma_84, ka_84⟩, bv_85, bv_86, bv_87, ⟨ma_92, ka_92⟩, ⟨ma_93, ka_93⟩, ⟨ma_94, ka_94⟩, bv_95, ⟨ma_96, ka_96⟩, ⟨ma_97, ka_97⟩⟩ := un_3 (hG _ ma_4) ka_4
  have bv_88 : ((-2147483648) ≤ v_88.toInt ∧ v_88.toInt ≤ 2147483647) := ⟨i32_lo _, i32_hi _⟩
  have bv_89 : ((-2147483648) ≤ v_89.toInt ∧ v_89.toInt ≤ 2147483647) := ⟨i32_lo _, i32_hi _⟩
  have bv_90 : ((-2147483648) ≤ v_90.toInt ∧ v_90.toInt ≤ 2147483647) := ⟨i32_lo _, i32_hi _⟩
  have bv_91 : ((-2147483648) ≤ v_91.toInt ∧ v_91.toInt ≤ 2147483647) := ⟨i32_lo _, i32_hi _⟩
  have hT2 := hxtr2 a_4 a_83 (by rw [hfo_1]; rfl) (by rw [hfo_79]; rfl)
  have hT3 := hxtr3
  have hT4 := hxtr4
  have hT5 := hxtr5
  have hT6 := hxtr6
  have h29 := hx29 v_50 (by rw [hfo_77]; rfl)
  have htp := hxtp v_3 v_26 (by rw [hfo_1]; rfl) (by rw [hfo_77]; rfl)
  have him := hxim v_10 v_24 (by rw [hfo_1]; rfl) (by rw [hfo_77]; rfl)
  refine lv_aload_n hx hb dL_law_910 rfl (lv_at hl 2 rfl) ?_
  refine lv_aload_n hx hb dL_law_911 rfl (lv_at hl 1 rfl) ?_
  refine lv_iload_n hx hb dL_law_912 rfl (lv_at hl 0 rfl) ?_
  refine lv_iconst (v := 1) hx hb dL_law_913 (by decide) ?_
  refine lv_iadd hx hb dL_law_914 ?_
  refine lv_topi (fun x_98 ex_98 => ?_)
  have hx_98 : x_98.toInt = i0.toInt + 1 := by rw [ex_98, ad_I (by rw [ti_1]; omega) (by rw [ti_1]; omega), ti_1]
  have bx_98 : (1 ≤ x_98.toInt ∧ x_98.toInt ≤ 379) := by constructor <;> omega
  refine va_sld hx hb hX hbl hbA hS (vp_in_iff.mpr (by constructor <;> omega)) dL_law_915 ?_
  refine lv_topi (fun x_99 ex_99 => ?_)
  have bx_99 : ((-2147483648) ≤ x_99.toInt ∧ x_99.toInt ≤ 2147483647) := ⟨i32_lo _, i32_hi _⟩
  refine tk_ViP (As := [.int x_99]) (rest := []) (n := 1) hx hb hml hown hU hN hZ (s_X11_look_k11 l (dC, dI) cI cL cZ cR cG cH Z kd L f hG o1 mo1 ko1 x_99) wd_1484 wd_1485 wd_1486 wd_2 wd_1487 (by decide +kernel) ⟨Nat.le_of_ble_eq_true rfl, Nat.le_of_ble_eq_true rfl⟩ hK hP hD hS mo1 hfo_1 11 rfl rfl rfl hl.1 rfl (Nat.le_of_ble_eq_true rfl) dL_law_916 ⟨Nat.le_of_ble_eq_true rfl, Nat.le_of_ble_eq_true rfl⟩ (fun x_100 f_101 H locs hw hP hD hS => ?_)
  obtain ⟨rfl, bx_100⟩ := hw
  refine lv_pop hx hb dL_law_919 rfl ?_
  refine lv_aload_n hx hb dL_law_920 rfl (lv_at hl 3 rfl) ?_
  refine lv_aload_n hx hb dL_law_921 rfl (lv_at hl 1 rfl) ?_
  refine lv_iload_n hx hb dL_law_922 rfl (lv_at hl 0 rfl) ?_
  refine lv_iconst (v := 1) hx hb dL_law_923 (by decide) ?_
  refine lv_iadd hx hb dL_law_924 ?_
  refine lv_topi (fun x_103 ex_103 => ?_)
  have hx_103 : x_103.toInt = i0.toInt + 1 := by rw [ex_103, ad_I (by rw [ti_1]; omega) (by rw [ti_1]; omega), ti_1]
  have bx_103 : (1 ≤ x_103.toInt ∧ x_103.toInt ≤ 379) := by constructor <;> omega
  refine va_sld hx hb hX hbl hbA hS (vp_in_iff.mpr (by constructor <;> omega)) dL_law_925 ?_
  refine lv_topi (fun x_104 ex_104 => ?_)
  have bx_104 : ((-2147483648) ≤ x_104.toInt ∧ x_104.toInt ≤ 2147483647) := ⟨i32_lo _, i32_hi _⟩
  have hsmx_104 : x_104.toInt = x_99.toInt := by rw [ex_104, ex_103, ex_99, ex_98]
  refine tk_ViP (As := [.int x_104]) (rest := []) (n := 1) hx hb hml hown hU hN hZ (s_X12_look_k12 l (dC, dI) cI cL cZ cR cG cH Z kd L f hG o2 mo2 ko2 x_104) wd_1494 wd_1495 wd_1496 wd_5 wd_1497 (by decide +kernel) ⟨Nat.le_of_ble_eq_true rfl, Nat.le_of_ble_eq_true rfl⟩ hK hP hD hS mo2 hfo_77 12 rfl rfl rfl hl.1 rfl (Nat.le_of_ble_eq_true rfl) dL_law_926 ⟨Nat.le_of_ble_eq_true rfl, Nat.le_of_ble_eq_true rfl⟩ (fun x_105 f_106 H locs hw hP hD hS => ?_)
  obtain ⟨rfl, bx_105⟩ := hw
  refine lv_pop hx hb dL_law_929 rfl ?_
  refine lv_goto (tgt := 933) hx hb dL_law_930 (by decide) ?_
  exact kk f _ _ hG hP hD hS ⟨(fun d9 h9 => by rw [hfo_1] at h9; obtain rfl := Option.some.inj h9; exact hT0), (fun d9 h9 => by rw [hfo_1] at h9; obtain rfl := Option.some.inj h9; exact hT1), (fun r9 d9 h8 h9 => by rw [hfo_1] at h8; obtain rfl := Option.some.inj h8; rw [hfo_79] at h9; obtain rfl := Option.some.inj h9; exact hT2), hT3, hT4, hT5, hT6, (fun z9 h9 => by rw [hfo_77] at h9; obtain rfl := Option.some.inj h9; omega), (fun y9 z9 h8 h9 => by rw [hfo_1] at h8; obtain rfl := Option.some.inj h8; rw [hfo_77] at h9; obtain rfl := Option.some.inj h9; omega), (fun y9 z9 h8 h9 => by rw [hfo_1] at h8; obtain rfl := Option.some.inj h8; rw [hfo_77] at h9; obtain rfl := Option.some.inj h9; omega)⟩ ls (lv_sub hl [0, 1, 2, 3] rfl)
