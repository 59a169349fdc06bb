set_option maxHeartbeats 8000000 in
set_option maxRecDepth 100000 in
theorem law_c14 {p : Program} {l : Launch} {e : Env} {s : State} {m : MethodId} {below : List Frame} {meth : Method} {c : Code} {dC : Nat → ClassId} {dI : Nat → Nat → Nat} {cI cL cZ cR cG cH : ClassId} {Z : zT} {kd : Nat → Nat} {L : List Nat} {b Ln : Nat} {xs : Nat → Int32} (hLn : Ln ≤ 384) (C0 : lw_At p s m meth c b Ln xs) (hK : va_K (dC, dI) vwCl (TY6 cI cL cZ cR cG cH) s) (hN : nsW s) (hZ : zW Z L s) (hLs : ∀ q ∈ L, s.heap.size ≤ q) {o1 o2 : Nat} (mo1 : o1 ∈ L) (ko1 : kd o1 = 11) (mo2 : o2 ∈ L) (ko2 : kd o2 = 12) {f : Nat → va_E} (hG : GI (okc cI cL cZ cR cG cH L kd) kd L f) {H : Heap} {locs : List Loc} (hP : va_P (dC, dI) vwCl (va_pl L f) H) (hD : va_D (fun q => q ∈ L) (va_pl L f)) (hS : va_S (fun q => q ∈ L) s.heap H locs) (hI : lawI kd f o1 o2) {i0 : Int32} (bi0 : 0 ≤ i0.toInt ∧ i0.toInt ≤ 378) (hi0 : i0.toInt + 6 ≤ (Ln : Int))
    (kk : ∀ (f1 : Nat → va_E) (H1 : Heap) (locs1 : List Loc), GI (okc cI cL cZ cR cG cH L kd) kd L f1 → va_P (dC, dI) vwCl (va_pl L f1) H1 → va_D (fun q => q ∈ L) (va_pl L f1) → va_S (fun q => q ∈ L) s.heap H1 locs1 → lawI kd f1 o1 o2 → ∀ (ls : Array Slot), lv_has ls 4 [(3, .int i0), (0, .ref b), (1, .ref o1), (2, .ref o2)] → W p l e room_1 s m #[Value.ref b] below meth c H1 locs1 559 115398 (lw_Z below #[Value.ref b] s) (F0 m 933 ls []))
    {ls : Array Slot} (hl : lv_has ls 4 [(3, .int i0), (0, .ref b), (1, .ref o1), (2, .ref o2)]) : W p l e room_1 s m #[Value.ref b] below meth c H locs 559 115398 (lw_Z below #[Value.ref b] s) (F0 m 476 ls []) := by
  obtain ⟨hx, hb, hr, hml, hown0, hts, hX, hbl, hlocks, hgv⟩ := C0
  have hown : s.vm.findClass RL = some m.cls := hown0
  have hU : ∀ w ∈ wsU, w.before #[Value.ref b] s = true := fun w h => hts w (wsU_in w h)
  have hbA : ¬ (fun q => q ∈ L) b := fun h => absurd (hLs b h) (Nat.not_le.mpr hbl)
  obtain ⟨hxtr0, hxtr1, hxtr2, hxtr3, hxtr4, hxtr5, hxtr6, hx29, hxtp, hxim⟩ := hI
  have hrr11_2 : ∀ b, kd b = 11 → fldR (f b) 2 = fldR (f b) 2 := fun _ _ => rfl
  have hrr11_3 : ∀ b, kd b = 11 → fldR (f b) 3 = fldR (f b) 3 := fun _ _ => rfl
  have hrr11_5 : ∀ b, kd b = 11 → fldR (f b) 5 = fldR (f b) 5 := fun _ _ => rfl
  have hrr11_6 : ∀ b, kd b = 11 → fldR (f b) 6 = fldR (f b) 6 := fun _ _ => rfl
  have hrr11_7 : ∀ b, kd b = 11 → fldR (f b) 7 = fldR (f b) 7 := fun _ _ => rfl
  have hrr11_9 : ∀ b, kd b = 11 → fldR (f b) 9 = fldR (f b) 9 := fun _ _ => rfl
  have hrr11_10 : ∀ b, kd b = 11 → fldR (f b) 10 = fldR (f b) 10 := fun _ _ => rfl
  have hrr11_16 : ∀ b, kd b = 11 → fldR (f b) 16 = fldR (f b) 16 := fun _ _ => rfl
  have hrr3_0 : ∀ b, kd b = 3 → fldR (f b) 0 = fldR (f b) 0 := fun _ _ => rfl
  have hrr3_3 : ∀ b, kd b = 3 → fldR (f b) 3 = fldR (f b) 3 := fun _ _ => rfl
  have hrA12 : ∀ b, kd b = 12 → ∀ j, fldR (f b) j = fldR (f b) j := fun _ _ _ => rfl
  obtain ⟨a_2, v_3, a_4, a_5, a_6, a_7, a_8, a_9, v_10, a_11, a_12, a_13, v_14, v_15, a_16, v_17, a_18, a_19, v_20, hfo_1, ⟨ma_2, ka_2⟩, bv_3, ⟨ma_4, ka_4⟩, ⟨ma_5, ka_5⟩, ⟨ma_6, ka_6⟩, ⟨ma_7, ka_7⟩, ⟨ma_8, ka_8⟩, ⟨ma_9, ka_9⟩, bv_10, ⟨ma_11, ka_11⟩, ⟨ma_12, ka_12⟩, ⟨ma_13, ka_13⟩, bv_14, ⟨ma_16, ka_16⟩, bv_17, ⟨ma_18, ka_18⟩, ⟨ma_19, ka_19⟩⟩ := un_11 (hG _ mo1) ko1
  have bv_15 : ((-2147483648) ≤ v_15.toInt ∧ v_15.toInt ≤ 2147483647) := ⟨i32_lo _, i32_hi _⟩
  have bv_20 : ((-2147483648) ≤ v_20.toInt ∧ v_20.toInt ≤ 2147483647) := ⟨i32_lo _, i32_hi _⟩
  obtain ⟨a_21, a_22, a_23, v_24, a_25, v_26, v_27, v_28, v_29, v_30, v_31, v_32, v_33, v_34, v_35, a_36, a_37, a_38, a_39, a_40, a_41, a_42, a_43, v_44, v_45, v_46, v_47, v_48, a_49, v_50, a_51, a_52, v_53, v_54, a_55, v_56, a_57, a_58, v_59, v_60, a_61, a_62, a_63, v_64, a_65, a_66, a_67, a_68, a_69, a_70, a_71, a_72, a_73, v_74, v_75, a_76, hfo_77, fa_78⟩ := un12 (hG _ mo2) ko2
  have bv_24 : (0 ≤ v_24.toInt ∧ v_24.toInt ≤ 1) := fa12_3 fa_78
  have bv_26 : (0 ≤ v_26.toInt ∧ v_26.toInt ≤ 600) := fa12_5 fa_78
  have bv_50 : (0 ≤ v_50.toInt ∧ v_50.toInt ≤ 201) := fa12_29 fa_78
  have hT0 := hxtr0 a_5 (by rw [hfo_1]; rfl)
  have hT1 := hxtr1 a_8 (by rw [hfo_1]; rfl)
  obtain ⟨a_80, a_81, a_82, a_83, a_84, v_85, v_86, v_87, v_88, v_89, v_90, v_91, a_92, a_93, a_94, v_95, a_96, a_97, hfo_79, ⟨ma_80, ka_80⟩, ⟨ma_81, ka_81⟩, ⟨ma_82, ka_82⟩, ⟨ma_83, ka_83⟩, ⟨ma_84, ka_84⟩, bv_85, bv_86, bv_87, ⟨ma_92, ka_92⟩, ⟨ma_93, ka_93⟩, ⟨ma_94, ka_94⟩, bv_95, ⟨ma_96, ka_96⟩, ⟨ma_97, ka_97⟩⟩ := un_3 (hG _ ma_4) ka_4
  have bv_88 : ((-2147483648) ≤ v_88.toInt ∧ v_88.toInt ≤ 2147483647) := ⟨i32_lo _, i32_hi _⟩
  have bv_89 : ((-2147483648) ≤ v_89.toInt ∧ v_89.toInt ≤ 2147483647) := ⟨i32_lo _, i32_hi _⟩
  have bv_90 : ((-2147483648) ≤ v_90.toInt ∧ v_90.toInt ≤ 2147483647) := ⟨i32_lo _, i32_hi _⟩
  have bv_91 : ((-2147483648) ≤ v_91.toInt ∧ v_91.toInt ≤ 2147483647) := ⟨i32_lo _, i32_hi _⟩
  have hT2 := hxtr2 a_4 a_83 (by rw [hfo_1]; rfl) (by rw [hfo_79]; rfl)
  have hT3 := hxtr3
  have hT4 := hxtr4
  have hT5 := hxtr5
  have hT6 := hxtr6
  have h29 := hx29 v_50 (by rw [hfo_77]; rfl)
  have htp := hxtp v_3 v_26 (by rw [hfo_1]; rfl) (by rw [hfo_77]; rfl)
  have him := hxim v_10 v_24 (by rw [hfo_1]; rfl) (by rw [hfo_77]; rfl)
  refine lv_aload_n hx hb dL_law_476 rfl (lv_at hl 2 rfl) ?_
  refine lv_aload_n hx hb dL_law_477 rfl (lv_at hl 1 rfl) ?_
  refine lv_iload_n hx hb dL_law_478 rfl (lv_at hl 0 rfl) ?_
  refine lv_iconst (v := 1) hx hb dL_law_479 (by decide) ?_
  refine lv_iadd hx hb dL_law_480 ?_
  refine lv_topi (fun x_98 ex_98 => ?_)
  have hx_98 : x_98.toInt = i0.toInt + 1 := by rw [ex_98, ad_I (by rw [ti_1]; omega) (by rw [ti_1]; omega), ti_1]
  have bx_98 : (1 ≤ x_98.toInt ∧ x_98.toInt ≤ 379) := by constructor <;> omega
  refine va_sld hx hb hX hbl hbA hS (vp_in_iff.mpr (by constructor <;> omega)) dL_law_481 ?_
  refine lv_topi (fun x_99 ex_99 => ?_)
  have bx_99 : ((-2147483648) ≤ x_99.toInt ∧ x_99.toInt ≤ 2147483647) := ⟨i32_lo _, i32_hi _⟩
  refine tk_ViP (As := [.int x_99]) (rest := []) (n := 1) hx hb hml hown hU hN hZ (s_X11_aged_k11 l (dC, dI) cI cL cZ cR cG cH Z kd L f hG o1 mo1 ko1 x_99) wd_1123 wd_1124 wd_1125 wd_2 wd_1126 (by decide +kernel) ⟨Nat.le_of_ble_eq_true rfl, Nat.le_of_ble_eq_true rfl⟩ hK hP hD hS mo1 hfo_1 11 rfl rfl rfl hl.1 rfl (Nat.le_of_ble_eq_true rfl) dL_law_482 ⟨Nat.le_of_ble_eq_true rfl, Nat.le_of_ble_eq_true rfl⟩ (fun x_100 f_101 H locs hw hP hD hS => ?_)
  obtain ⟨rfl, bx_100⟩ := hw
  refine lv_pop hx hb dL_law_485 rfl ?_
  refine lv_aload_n hx hb dL_law_486 rfl (lv_at hl 3 rfl) ?_
  refine lv_aload_n hx hb dL_law_487 rfl (lv_at hl 1 rfl) ?_
  refine lv_iload_n hx hb dL_law_488 rfl (lv_at hl 0 rfl) ?_
  refine lv_iconst (v := 1) hx hb dL_law_489 (by decide) ?_
  refine lv_iadd hx hb dL_law_490 ?_
  refine lv_topi (fun x_103 ex_103 => ?_)
  have hx_103 : x_103.toInt = i0.toInt + 1 := by rw [ex_103, ad_I (by rw [ti_1]; omega) (by rw [ti_1]; omega), ti_1]
  have bx_103 : (1 ≤ x_103.toInt ∧ x_103.toInt ≤ 379) := by constructor <;> omega
  refine va_sld hx hb hX hbl hbA hS (vp_in_iff.mpr (by constructor <;> omega)) dL_law_491 ?_
  refine lv_topi (fun x_104 ex_104 => ?_)
  have bx_104 : ((-2147483648) ≤ x_104.toInt ∧ x_104.toInt ≤ 2147483647) := ⟨i32_lo _, i32_hi _⟩
  have hsmx_104 : x_104.toInt = x_99.toInt := by rw [ex_104, ex_103, ex_99, ex_98]
  refine tk_ViP (As := [.int x_104]) (rest := []) (n := 1) hx hb hml hown hU hN hZ (s_X12_aged_k12 l (dC, dI) cI cL cZ cR cG cH Z kd L f hG o2 mo2 ko2 x_104) wd_1127 wd_1128 wd_1129 wd_5 wd_1130 (by decide +kernel) ⟨Nat.le_of_ble_eq_true rfl, Nat.le_of_ble_eq_true rfl⟩ hK hP hD hS mo2 hfo_77 12 rfl rfl rfl hl.1 rfl (Nat.le_of_ble_eq_true rfl) dL_law_492 ⟨Nat.le_of_ble_eq_true rfl, Nat.le_of_ble_eq_true rfl⟩ (fun x_105 f_106 H locs hw hP hD hS => ?_)
  obtain ⟨rfl, bx_105⟩ := hw
  refine lv_pop hx hb dL_law_495 rfl ?_
  refine lv_goto (tgt := 933) hx hb dL_law_496 (by decide) ?_
  exact kk f _ _ hG hP hD hS ⟨(fun d9 h9 => by rw [hfo_1] at h9; obtain rfl := Option.some.inj h9; exact hT0), (fun d9 h9 => by rw [hfo_1] at h9; obtain rfl := Option.some.inj h9; exact hT1), (fun r9 d9 h8 h9 => by rw [hfo_1] at h8; obtain rfl := Option.some.inj h8; rw [hfo_79] at h9; obtain rfl := Option.some.inj h9; exact hT2), hT3, hT4, hT5, hT6, (fun z9 h9 => by rw [hfo_77] at h9; obtain rfl := Option.some.inj h9; omega), (fun y9 z9 h8 h9 => by rw [hfo_1] at h8; obtain rfl := Option.some.inj h8; rw [hfo_77] at h9; obtain rfl := Option.some.inj h9; omega), (fun y9 z9 h8 h9 => by rw [hfo_1] at h8; obtain rfl := Option.some.inj h8; rw [hfo_77] at h9; obtain rfl := Option.some.inj h9; omega)⟩ ls (lv_sub hl [0, 1, 2, 3] rfl)
set_option maxHeartbeats 8000000 in
set_option maxRecDepth 100000 in
theorem law_c15 {p : Program} {l : Launch} {e : Env} {s : State} {m : MethodId} {below : List Frame} {meth : Method} {c : Code} {dC : Nat → ClassId} {dI : Nat → Nat → Nat} {cI cL cZ cR cG cH : ClassId} {Z : zT} {kd : Nat → Nat} {L : List Nat} {b Ln : Nat} {xs : Nat → Int32} (hLn : Ln ≤ 384) (C0 : lw_At p s m meth c b Ln xs) (hK : va_K (dC, dI) vwCl (TY6 cI cL cZ cR cG cH) s) (hN : nsW s) (hZ : zW Z L s) (hLs : ∀ q ∈ L, s.heap.size ≤ q) {o1 o2 : Nat} (mo1 : o1 ∈ L) (ko1 : kd o1 = 11) (mo2 : o2 ∈ L) (ko2 : kd o2 = 12) {f : Nat → va_E} (hG : GI (okc cI cL cZ cR cG cH L kd) kd L f) {H : Heap} {locs : List Loc} (hP : va_P (dC, dI) vwCl (va_pl L f) H) (hD : va_D (fun q => q ∈ L) (va_pl L f)) (hS : va_S (fun q => q ∈ L) s.heap H locs) (hI : lawI kd f o1 o2) {i0 : Int32} (bi0 : 0 ≤ i0.toInt ∧ i0.toInt ≤ 378) (hi0 : i0.toInt + 6 ≤ (Ln : Int))
    (kk : ∀ (f1 : Nat → va_E) (H1 : Heap) (locs1 : List Loc), GI (okc cI cL cZ cR cG cH L kd) kd L f1 → va_P (dC, dI) vwCl (va_pl L f1) H1 → va_D (fun q => q ∈ L) (va_pl L f1) → va_S (fun q => q ∈ L) s.heap H1 locs1 → lawI kd f1 o1 o2 → ∀ (ls : Array Slot), lv_has ls 4 [(3, .int i0), (0, .ref b), (1, .ref o1), (2, .ref o2)] → W p l e room_1 s m #[Value.ref b] below meth c H1 locs1 559 115398 (lw_Z below #[Value.ref b] s) (F0 m 933 ls []))
    {ls : Array Slot} (hl : lv_has ls 4 [(3, .int i0), (0, .ref b), (1, .ref o1), (2, .ref o2)]) : W p l e room_1 s m #[Value.ref b] below meth c H locs 559 115398 (lw_Z below #[Value.ref b] s) (F0 m 499 ls []) := by
  obtain ⟨hx, hb, hr, hml, hown0, hts, hX, hbl, hlocks, hgv⟩ := C0
  have hown : s.vm.findClass RL = some m.cls := hown0
  have hU : ∀ w ∈ wsU, w.before #[Value.ref b] s = true := fun w h => hts w (wsU_in w h)
  have hbA : ¬ (fun q => q ∈ L) b := fun h => absurd (hLs b h) (Nat.not_le.mpr hbl)
  obtain ⟨hxtr0, hxtr1, hxtr2, hxtr3, hxtr4, hxtr5, hxtr6, hx29, hxtp, hxim⟩ := hI
  have hrr11_2 : ∀ b, kd b = 11 → fldR (f b) 2 = fldR (f b) 2 := fun _ _ => rfl
  have hrr11_3 : ∀ b, kd b = 11 → fldR (f b) 3 = fldR (f b) 3 := fun _ _ => rfl
  have hrr11_5 : ∀ b, kd b = 11 → fldR (f b) 5 = fldR (f b) 5 := fun _ _ => rfl
  have hrr11_6 : ∀ b, kd b = 11 → fldR (f b) 6 = fldR (f b) 6 := fun _ _ => rfl
  have hrr11_7 : ∀ b, kd b = 11 → fldR (f b) 7 = fldR (f b) 7 := fun _ _ => rfl
  have hrr11_9 : ∀ b, kd b = 11 → fldR (f b) 9 = fldR (f b) 9 := fun _ _ => rfl
  have hrr11_10 : ∀ b, kd b = 11 → fldR (f b) 10 = fldR (f b) 10 := fun _ _ => rfl
  have hrr11_16 : ∀ b, kd b = 11 → fldR (f b) 16 = fldR (f b) 16 := fun _ _ => rfl
  have hrr3_0 : ∀ b, kd b = 3 → fldR (f b) 0 = fldR (f b) 0 := fun _ _ => rfl
  have hrr3_3 : ∀ b, kd b = 3 → fldR (f b) 3 = fldR (f b) 3 := fun _ _ => rfl
  have hrA12 : ∀ b, kd b = 12 → ∀ j, fldR (f b) j = fldR (f b) j := fun _ _ _ => rfl
  obtain ⟨a_2, v_3, a_4, a_5, a_6, a_7, a_8, a_9, v_10, a_11, a_12, a_13, v_14, v_15, a_16, v_17, a_18, a_19, v_20, hfo_1, ⟨ma_2, ka_2⟩, bv_3, ⟨ma_4, ka_4⟩, ⟨ma_5, ka_5⟩, ⟨ma_6, ka_6⟩, ⟨ma_7, ka_7⟩, ⟨ma_8, ka_8⟩, ⟨ma_9, ka_9⟩, bv_10, ⟨ma_11, ka_11⟩, ⟨ma_12, ka_12⟩, ⟨ma_13, ka_13⟩, bv_14, ⟨ma_16, ka_16⟩, bv_17, ⟨ma_18, ka_18⟩, ⟨ma_19, ka_19⟩⟩ := un_11 (hG _ mo1) ko1
  have bv_15 : ((-2147483648) ≤ v_15.toInt ∧ v_15.toInt ≤ 2147483647) := ⟨i32_lo _, i32_hi _⟩
  have bv_20 : ((-2147483648) ≤ v_20.toInt ∧ v_20.toInt ≤ 2147483647) := ⟨i32_lo _, i32_hi _⟩
  obtain ⟨a_21, a_22, a_23, v_24, a_25, v_26, v_27, v_28, v_29, v_30, v_31, v_32, v_33, v_34, v_35, a_36, a_37, a_38, a_39, a_40, a_41, a_42, a_43, v_44, v_45, v_46, v_47, v_48, a_49, v_50, a_51, a_52, v_53, v_54, a_55, v_56, a_57, a_58, v_59, v_60, a_61, a_62, a_63, v_64, a_65, a_66, a_67, a_68, a_69, a_70, a_71, a_72, a_73, v_74, v_75, a_76, hfo_77, fa_78⟩ := un12 (hG _ mo2) ko2
  have bv_24 : (0 ≤ v_24.toInt ∧ v_24.toInt ≤ 1) := fa12_3 fa_78
  have bv_26 : (0 ≤ v_26.toInt ∧ v_26.toInt ≤ 600) := fa12_5 fa_78
  have bv_50 : (0 ≤ v_50.toInt ∧ v_50.toInt ≤ 201) := fa12_29 fa_78
  have hT0 := hxtr0 a_5 (by rw [hfo_1]; rfl)
  have hT1 := hxtr1 a_8 (by rw [hfo_1]; rfl)
  obtain ⟨a_80, a_81, a_82, a_83, a_84, v_85, v_86, v_87, v_88, v_89, v_90, v_91, a_92, a_93, a_94, v_95, a_96, a_97, hfo_79, ⟨ma_80, ka_80⟩, ⟨ma_81, ka_81⟩, ⟨ma_82, ka_82⟩, ⟨ma_83, ka_83⟩, ⟨ma_84, ka_84⟩, bv_85, bv_86, bv_87, ⟨ma_92, ka_92⟩, ⟨ma_93, ka_93⟩, ⟨ma_94, ka_94⟩, bv_95, ⟨ma_96, ka_96⟩, ⟨ma_97, ka_97⟩⟩ := un_3 (hG _ ma_4) ka_4
  have bv_88 : ((-2147483648) ≤ v_88.toInt ∧ v_88.toInt ≤ 2147483647) := ⟨i32_lo _, i32_hi _⟩
  have bv_89 : ((-2147483648) ≤ v_89.toInt ∧ v_89.toInt ≤ 2147483647) := ⟨i32_lo _, i32_hi _⟩
  have bv_90 : ((-2147483648) ≤ v_90.toInt ∧ v_90.toInt ≤ 2147483647) := ⟨i32_lo _, i32_hi _⟩
  have bv_91 : ((-2147483648) ≤ v_91.toInt ∧ v_91.toInt ≤ 2147483647) := ⟨i32_lo _, i32_hi _⟩
  have hT2 := hxtr2 a_4 a_83 (by rw [hfo_1]; rfl) (by rw [hfo_79]; rfl)
  have hT3 := hxtr3
  have hT4 := hxtr4
  have hT5 := hxtr5
  have hT6 := hxtr6
  have h29 := hx29 v_50 (by rw [hfo_77]; rfl)
  have htp := hxtp v_3 v_26 (by rw [hfo_1]; rfl) (by rw [hfo_77]; rfl)
  have him := hxim v_10 v_24 (by rw [hfo_1]; rfl) (by rw [hfo_77]; rfl)
  refine lv_aload_n hx hb dL_law_499 rfl (lv_at hl 2 rfl) ?_
  refine lv_aload_n hx hb dL_law_500 rfl (lv_at hl 1 rfl) ?_
  refine lv_iload_n hx hb dL_law_501 rfl (lv_at hl 0 rfl) ?_
  refine lv_iconst (v := 1) hx hb dL_law_502 (by decide) ?_
  refine lv_iadd hx hb dL_law_503 ?_
  refine lv_topi (fun x_98 ex_98 => ?_)
  have hx_98 : x_98.toInt = i0.toInt + 1 := by rw [ex_98, ad_I (by rw [ti_1]; omega) (by rw [ti_1]; omega), ti_1]
  have bx_98 : (1 ≤ x_98.toInt ∧ x_98.toInt ≤ 379) := by constructor <;> omega
  refine va_sld hx hb hX hbl hbA hS (vp_in_iff.mpr (by constructor <;> omega)) dL_law_504 ?_
  refine lv_topi (fun x_99 ex_99 => ?_)
  have bx_99 : ((-2147483648) ≤ x_99.toInt ∧ x_99.toInt ≤ 2147483647) := ⟨i32_lo _, i32_hi _⟩
  refine lv_aload_n hx hb dL_law_505 rfl (lv_at hl 1 rfl) ?_
  refine lv_iload_n hx hb dL_law_506 rfl (lv_at hl 0 rfl) ?_
  refine lv_iconst (v := 2) hx hb dL_law_507 (by decide) ?_
  refine lv_iadd hx hb dL_law_508 ?_
  refine lv_topi (fun x_100 ex_100 => ?_)
  have hx_100 : x_100.toInt = i0.toInt + 2 := by rw [ex_100, ad_I (by rw [ti_2]; omega) (by rw [ti_2]; omega), ti_2]
  have bx_100 : (2 ≤ x_100.toInt ∧ x_100.toInt ≤ 380) := by constructor <;> omega
  refine va_sld hx hb hX hbl hbA hS (vp_in_iff.mpr (by constructor <;> omega)) dL_law_509 ?_
  refine lv_topi (fun x_101 ex_101 => ?_)
  have bx_101 : ((-2147483648) ≤ x_101.toInt ∧ x_101.toInt ≤ 2147483647) := ⟨i32_lo _, i32_hi _⟩
  refine tk_ViP (As := [.int x_99, .int x_101]) (rest := []) (n := 2) hx hb hml hown hU hN hZ (s_X11_order_k11 l (dC, dI) cI cL cZ cR cG cH Z kd L f hG o1 mo1 ko1 x_99 x_101) wd_1131 wd_1132 wd_1133 wd_2 wd_1134 (by decide +kernel) ⟨Nat.le_of_ble_eq_true rfl, Nat.le_of_ble_eq_true rfl⟩ hK hP hD hS mo1 hfo_1 11 rfl rfl rfl hl.1 rfl (Nat.le_of_ble_eq_true rfl) dL_law_510 ⟨Nat.le_of_ble_eq_true rfl, Nat.le_of_ble_eq_true rfl⟩ (fun x_102 f_103 H locs hw hP hD hS => ?_)
  obtain ⟨hG, bx_102, hkc_104⟩ := hw
  have hfo_106 : f_103 o1 = .inr (11, [.ref a_2, .int v_3, .ref a_4, .ref a_5, .ref a_6, .ref a_7, .ref a_8, .ref a_9, .int v_10, .ref a_11, .ref a_12, .ref a_13, .int v_14, .int v_15, .ref a_16, .int v_17, .ref a_18, .ref a_19, .int v_20]) := by rw [hkc_104 o1 (by rw [ko1]; decide)]; exact hfo_1
  have hfo_107 : f_103 o2 = .inr (12, [.ref a_21, .ref a_22, .ref a_23, .int v_24, .ref a_25, .int v_26, .int v_27, .int v_28, .int v_29, .int v_30, .int v_31, .int v_32, .int v_33, .int v_34, .int v_35, .ref a_36, .ref a_37, .ref a_38, .ref a_39, .ref a_40, .ref a_41, .ref a_42, .ref a_43, .int v_44, .int v_45, .int v_46, .int v_47, .int v_48, .ref a_49, .int v_50, .ref a_51, .ref a_52, .int v_53, .int v_54, .ref a_55, .int v_56, .ref a_57, .ref a_58, .int v_59, .int v_60, .ref a_61, .ref a_62, .ref a_63, .int v_64, .ref a_65, .ref a_66, .ref a_67, .ref a_68, .ref a_69, .ref a_70, .ref a_71, .ref a_72, .ref a_73, .int v_74, .int v_75, .ref a_76]) := by rw [hkc_104 o2 (by rw [ko2]; decide)]; exact hfo_77
  have hfo_108 : f_103 a_4 = .inr (3, [.ref a_80, .ref a_81, .ref a_82, .ref a_83, .ref a_84, .int v_85, .int v_86, .int v_87, .int v_88, .int v_89, .int v_90, .int v_91, .ref a_92, .ref a_93, .ref a_94, .int v_95, .ref a_96, .ref a_97]) := by rw [hkc_104 a_4 (by rw [ka_4]; decide)]; exact hfo_79
  have hrr11_2 : ∀ b, kd b = 11 → fldR (f_103 b) 2 = fldR (f b) 2 := fun b kb => (congrArg (fun x => fldR x 2) (hkc_104 b (by rw [kb]; decide))).trans (hrr11_2 b kb)
  have hrr11_3 : ∀ b, kd b = 11 → fldR (f_103 b) 3 = fldR (f b) 3 := fun b kb => (congrArg (fun x => fldR x 3) (hkc_104 b (by rw [kb]; decide))).trans (hrr11_3 b kb)
  have hrr11_5 : ∀ b, kd b = 11 → fldR (f_103 b) 5 = fldR (f b) 5 := fun b kb => (congrArg (fun x => fldR x 5) (hkc_104 b (by rw [kb]; decide))).trans (hrr11_5 b kb)
  have hrr11_6 : ∀ b, kd b = 11 → fldR (f_103 b) 6 = fldR (f b) 6 := fun b kb => (congrArg (fun x => fldR x 6) (hkc_104 b (by rw [kb]; decide))).trans (hrr11_6 b kb)
  have hrr11_7 : ∀ b, kd b = 11 → fldR (f_103 b) 7 = fldR (f b) 7 := fun b kb => (congrArg (fun x => fldR x 7) (hkc_104 b (by rw [kb]; decide))).trans (hrr11_7 b kb)
  have hrr11_9 : ∀ b, kd b = 11 → fldR (f_103 b) 9 = fldR (f b) 9 := fun b kb => (congrArg (fun x => fldR x 9) (hkc_104 b (by rw [kb]; decide))).trans (hrr11_9 b kb)
  have hrr11_10 : ∀ b, kd b = 11 → fldR (f_103 b) 10 = fldR (f b) 10 := fun b kb => (congrArg (fun x => fldR x 10) (hkc_104 b (by rw [kb]; decide))).trans (hrr11_10 b kb)
  have hrr11_16 : ∀ b, kd b = 11 → fldR (f_103 b) 16 = fldR (f b) 16 := fun b kb => (congrArg (fun x => fldR x 16) (hkc_104 b (by rw [kb]; decide))).trans (hrr11_16 b kb)
  have hrr3_0 : ∀ b, kd b = 3 → fldR (f_103 b) 0 = fldR (f b) 0 := fun b kb => (congrArg (fun x => fldR x 0) (hkc_104 b (by rw [kb]; decide))).trans (hrr3_0 b kb)
  have hrr3_3 : ∀ b, kd b = 3 → fldR (f_103 b) 3 = fldR (f b) 3 := fun b kb => (congrArg (fun x => fldR x 3) (hkc_104 b (by rw [kb]; decide))).trans (hrr3_3 b kb)
  have hrA12 : ∀ b, kd b = 12 → ∀ j, fldR (f_103 b) j = fldR (f b) j := fun b kb j => (congrArg (fun x => fldR x j) (hkc_104 b (by rw [kb]; decide))).trans (hrA12 b kb j)
  have hT0 : trel kd 7 508 510 515 4 f_103 a_5 := hT0.keep (fun b q => hkc_104 b (by rw [q]; decide)) (fun b q => hkc_104 b (by rw [q]; decide)) (fun b q => hkc_104 b (by rw [q]; decide)) (fun b q => hkc_104 b (by rw [q]; decide)) (fun b q => congrArg (fun x => fldI x 1) (hkc_104 b (by rw [q]; decide)))
  have hT1 : trel kd 107 549 551 556 104 f_103 a_8 := hT1.keep (fun b q => hkc_104 b (by rw [q]; decide)) (fun b q => hkc_104 b (by rw [q]; decide)) (fun b q => hkc_104 b (by rw [q]; decide)) (fun b q => hkc_104 b (by rw [q]; decide)) (fun b q => congrArg (fun x => fldI x 1) (hkc_104 b (by rw [q]; decide)))
  have hT2 : drel kd 1 521 522 f_103 a_83 := hT2.keep (fun b q => congrArg (fun x => fldI x 5) (hkc_104 b (by rw [q]; decide))) (fun b q => congrArg (fun x => fldR x 0) (hkc_104 b (by rw [q]; decide))) (fun b q => congrArg (fun x => fldR x 1) (hkc_104 b (by rw [q]; decide))) (fun b q => hkc_104 b (by rw [q]; decide)) (fun b q => hkc_104 b (by rw [q]; decide))
  have hT3 : urel kd 5 3 6 7 f_103 o1 := hT3.keep (fun b q => congrArg (fun x => fldR x 5) (hkc_104 b (by rw [q]; decide))) (fun b q => congrArg (fun x => fldR x 3) (hkc_104 b (by rw [q]; decide))) (fun b q => congrArg (fun x => fldI x 0) (hkc_104 b (by rw [q]; decide))) (fun b q => congrArg (fun x => fldI x 12) (hkc_104 b (by rw [q]; decide)))
  have hT4 : urel kd 7 6 106 107 f_103 o1 := hT4.keep (fun b q => congrArg (fun x => fldR x 7) (hkc_104 b (by rw [q]; decide))) (fun b q => congrArg (fun x => fldR x 6) (hkc_104 b (by rw [q]; decide))) (fun b q => congrArg (fun x => fldI x 0) (hkc_104 b (by rw [q]; decide))) (fun b q => congrArg (fun x => fldI x 12) (hkc_104 b (by rw [q]; decide)))
  have hT5 : alrel kd f_103 o1 := hT5.keep (fun b q => congrArg (fun x => fldR x 2) (hkc_104 b (by rw [q]; decide))) (fun b q => congrArg (fun x => fldR x 3) (hkc_104 b (by rw [q]; decide))) (fun b q => congrArg (fun x => fldR x 0) (hkc_104 b (by rw [q]; decide)))
  have hT6 : srel kd 592 f_103 o2 := hT6.keep (fun b q => congrArg (fun x => fldR x 30) (hkc_104 b (by rw [q]; decide))) (fun b q => congrArg (fun x => fldI x 32) (hkc_104 b (by rw [q]; decide))) (fun b q => congrArg (fun x => fldI x 33) (hkc_104 b (by rw [q]; decide))) (fun b q => hkc_104 b (by rw [q]; decide))
  refine lv_pop hx hb dL_law_513 rfl ?_
  refine lv_aload_n hx hb dL_law_514 rfl (lv_at hl 3 rfl) ?_
  refine lv_aload_n hx hb dL_law_515 rfl (lv_at hl 1 rfl) ?_
  refine lv_iload_n hx hb dL_law_516 rfl (lv_at hl 0 rfl) ?_
  refine lv_iconst (v := 1) hx hb dL_law_517 (by decide) ?_
  refine lv_iadd hx hb dL_law_518 ?_
  refine lv_topi (fun x_109 ex_109 => ?_)
  have hx_109 : x_109.toInt = i0.toInt + 1 := by rw [ex_109, ad_I (by rw [ti_1]; omega) (by rw [ti_1]; omega), ti_1]
  have bx_109 : (1 ≤ x_109.toInt ∧ x_109.toInt ≤ 379) := by constructor <;> omega
  refine va_sld hx hb hX hbl hbA hS (vp_in_iff.mpr (by constructor <;> omega)) dL_law_519 ?_
  refine lv_topi (fun x_110 ex_110 => ?_)
  have bx_110 : ((-2147483648) ≤ x_110.toInt ∧ x_110.toInt ≤ 2147483647) := ⟨i32_lo _, i32_hi _⟩
  have hsmx_110 : x_110.toInt = x_99.toInt := by rw [ex_110, ex_109, ex_99, ex_98]
  refine lv_aload_n hx hb dL_law_520 rfl (lv_at hl 1 rfl) ?_
  refine lv_iload_n hx hb dL_law_521 rfl (lv_at hl 0 rfl) ?_
  refine lv_iconst (v := 2) hx hb dL_law_522 (by decide) ?_
  refine lv_iadd hx hb dL_law_523 ?_
  refine lv_topi (fun x_111 ex_111 => ?_)
  have hx_111 : x_111.toInt = i0.toInt + 2 := by rw [ex_111, ad_I (by rw [ti_2]; omega) (by rw [ti_2]; omega), ti_2]
  have bx_111 : (2 ≤ x_111.toInt ∧ x_111.toInt ≤ 380) := by constructor <;> omega
  refine va_sld hx hb hX hbl hbA hS (vp_in_iff.mpr (by constructor <;> omega)) dL_law_524 ?_
  refine lv_topi (fun x_112 ex_112 => ?_)
  have bx_112 : ((-2147483648) ≤ x_112.toInt ∧ x_112.toInt ≤ 2147483647) := ⟨i32_lo _, i32_hi _⟩
  have hsmx_112 : x_112.toInt = x_101.toInt := by rw [ex_112, ex_111, ex_101, ex_100]
  refine tk_ViP (As := [.int x_110, .int x_112]) (rest := []) (n := 2) hx hb hml hown hU hN hZ (s_X12_order_k12 l (dC, dI) cI cL cZ cR cG cH Z kd L f_103 hG o2 mo2 ko2 x_110 x_112) wd_1143 wd_1144 wd_1145 wd_5 wd_1146 (by decide +kernel) ⟨Nat.le_of_ble_eq_true rfl, Nat.le_of_ble_eq_true rfl⟩ hK hP hD hS mo2 hfo_107 12 rfl rfl rfl hl.1 rfl (Nat.le_of_ble_eq_true rfl) dL_law_525 ⟨Nat.le_of_ble_eq_true rfl, Nat.le_of_ble_eq_true rfl⟩ (fun x_113 f_114 H locs hw hP hD hS => ?_)
  obtain ⟨hG, bx_113, hkc_115⟩ := hw
  have hfo_117 : f_114 o1 = .inr (11, [.ref a_2, .int v_3, .ref a_4, .ref a_5, .ref a_6, .ref a_7, .ref a_8, .ref a_9, .int v_10, .ref a_11, .ref a_12, .ref a_13, .int v_14, .int v_15, .ref a_16, .int v_17, .ref a_18, .ref a_19, .int v_20]) := by rw [hkc_115 o1 (by rw [ko1]; decide)]; exact hfo_106
  have hfo_118 : f_114 o2 = .inr (12, [.ref a_21, .ref a_22, .ref a_23, .int v_24, .ref a_25, .int v_26, .int v_27, .int v_28, .int v_29, .int v_30, .int v_31, .int v_32, .int v_33, .int v_34, .int v_35, .ref a_36, .ref a_37, .ref a_38, .ref a_39, .ref a_40, .ref a_41, .ref a_42, .ref a_43, .int v_44, .int v_45, .int v_46, .int v_47, .int v_48, .ref a_49, .int v_50, .ref a_51, .ref a_52, .int v_53, .int v_54, .ref a_55, .int v_56, .ref a_57, .ref a_58, .int v_59, .int v_60, .ref a_61, .ref a_62, .ref a_63, .int v_64, .ref a_65, .ref a_66, .ref a_67, .ref a_68, .ref a_69, .ref a_70, .ref a_71, .ref a_72, .ref a_73, .int v_74, .int v_75, .ref a_76]) := by rw [hkc_115 o2 (by rw [ko2]; decide)]; exact hfo_107
  have hfo_119 : f_114 a_4 = .inr (3, [.ref a_80, .ref a_81, .ref a_82, .ref a_83, .ref a_84, .int v_85, .int v_86, .int v_87, .int v_88, .int v_89, .int v_90, .int v_91, .ref a_92, .ref a_93, .ref a_94, .int v_95, .ref a_96, .ref a_97]) := by rw [hkc_115 a_4 (by rw [ka_4]; decide)]; exact hfo_108
  have hrr11_2 : ∀ b, kd b = 11 → fldR (f_114 b) 2 = fldR (f b) 2 := fun b kb => (congrArg (fun x => fldR x 2) (hkc_115 b (by rw [kb]; decide))).trans (hrr11_2 b kb)
  have hrr11_3 : ∀ b, kd b = 11 → fldR (f_114 b) 3 = fldR (f b) 3 := fun b kb => (congrArg (fun x => fldR x 3) (hkc_115 b (by rw [kb]; decide))).trans (hrr11_3 b kb)
  have hrr11_5 : ∀ b, kd b = 11 → fldR (f_114 b) 5 = fldR (f b) 5 := fun b kb => (congrArg (fun x => fldR x 5) (hkc_115 b (by rw [kb]; decide))).trans (hrr11_5 b kb)
  have hrr11_6 : ∀ b, kd b = 11 → fldR (f_114 b) 6 = fldR (f b) 6 := fun b kb => (congrArg (fun x => fldR x 6) (hkc_115 b (by rw [kb]; decide))).trans (hrr11_6 b kb)
  have hrr11_7 : ∀ b, kd b = 11 → fldR (f_114 b) 7 = fldR (f b) 7 := fun b kb => (congrArg (fun x => fldR x 7) (hkc_115 b (by rw [kb]; decide))).trans (hrr11_7 b kb)
  have hrr11_9 : ∀ b, kd b = 11 → fldR (f_114 b) 9 = fldR (f b) 9 := fun b kb => (congrArg (fun x => fldR x 9) (hkc_115 b (by rw [kb]; decide))).trans (hrr11_9 b kb)
  have hrr11_10 : ∀ b, kd b = 11 → fldR (f_114 b) 10 = fldR (f b) 10 := fun b kb => (congrArg (fun x => fldR x 10) (hkc_115 b (by rw [kb]; decide))).trans (hrr11_10 b kb)
  have hrr11_16 : ∀ b, kd b = 11 → fldR (f_114 b) 16 = fldR (f b) 16 := fun b kb => (congrArg (fun x => fldR x 16) (hkc_115 b (by rw [kb]; decide))).trans (hrr11_16 b kb)
  have hrr3_0 : ∀ b, kd b = 3 → fldR (f_114 b) 0 = fldR (f b) 0 := fun b kb => (congrArg (fun x => fldR x 0) (hkc_115 b (by rw [kb]; decide))).trans (hrr3_0 b kb)
  have hrr3_3 : ∀ b, kd b = 3 → fldR (f_114 b) 3 = fldR (f b) 3 := fun b kb => (congrArg (fun x => fldR x 3) (hkc_115 b (by rw [kb]; decide))).trans (hrr3_3 b kb)
  have hrA12 : ∀ b, kd b = 12 → ∀ j, fldR (f_114 b) j = fldR (f b) j := fun b kb j => (congrArg (fun x => fldR x j) (hkc_115 b (by rw [kb]; decide))).trans (hrA12 b kb j)
  have hT0 : trel kd 7 508 510 515 4 f_114 a_5 := hT0.keep (fun b q => hkc_115 b (by rw [q]; decide)) (fun b q => hkc_115 b (by rw [q]; decide)) (fun b q => hkc_115 b (by rw [q]; decide)) (fun b q => hkc_115 b (by rw [q]; decide)) (fun b q => congrArg (fun x => fldI x 1) (hkc_115 b (by rw [q]; decide)))
  have hT1 : trel kd 107 549 551 556 104 f_114 a_8 := hT1.keep (fun b q => hkc_115 b (by rw [q]; decide)) (fun b q => hkc_115 b (by rw [q]; decide)) (fun b q => hkc_115 b (by rw [q]; decide)) (fun b q => hkc_115 b (by rw [q]; decide)) (fun b q => congrArg (fun x => fldI x 1) (hkc_115 b (by rw [q]; decide)))
  have hT2 : drel kd 1 521 522 f_114 a_83 := hT2.keep (fun b q => congrArg (fun x => fldI x 5) (hkc_115 b (by rw [q]; decide))) (fun b q => congrArg (fun x => fldR x 0) (hkc_115 b (by rw [q]; decide))) (fun b q => congrArg (fun x => fldR x 1) (hkc_115 b (by rw [q]; decide))) (fun b q => hkc_115 b (by rw [q]; decide)) (fun b q => hkc_115 b (by rw [q]; decide))
  have hT3 : urel kd 5 3 6 7 f_114 o1 := hT3.keep (fun b q => congrArg (fun x => fldR x 5) (hkc_115 b (by rw [q]; decide))) (fun b q => congrArg (fun x => fldR x 3) (hkc_115 b (by rw [q]; decide))) (fun b q => congrArg (fun x => fldI x 0) (hkc_115 b (by rw [q]; decide))) (fun b q => congrArg (fun x => fldI x 12) (hkc_115 b (by rw [q]; decide)))
  have hT4 : urel kd 7 6 106 107 f_114 o1 := hT4.keep (fun b q => congrArg (fun x => fldR x 7) (hkc_115 b (by rw [q]; decide))) (fun b q => congrArg (fun x => fldR x 6) (hkc_115 b (by rw [q]; decide))) (fun b q => congrArg (fun x => fldI x 0) (hkc_115 b (by rw [q]; decide))) (fun b q => congrArg (fun x => fldI x 12) (hkc_115 b (by rw [q]; decide)))
  have hT5 : alrel kd f_114 o1 := hT5.keep (fun b q => congrArg (fun x => fldR x 2) (hkc_115 b (by rw [q]; decide))) (fun b q => congrArg (fun x => fldR x 3) (hkc_115 b (by rw [q]; decide))) (fun b q => congrArg (fun x => fldR x 0) (hkc_115 b (by rw [q]; decide)))
  have hT6 : srel kd 592 f_114 o2 := hT6.keep (fun b q => congrArg (fun x => fldR x 30) (hkc_115 b (by rw [q]; decide))) (fun b q => congrArg (fun x => fldI x 32) (hkc_115 b (by rw [q]; decide))) (fun b q => congrArg (fun x => fldI x 33) (hkc_115 b (by rw [q]; decide))) (fun b q => hkc_115 b (by rw [q]; decide))
  refine lv_pop hx hb dL_law_528 rfl ?_
  refine lv_goto (tgt := 933) hx hb dL_law_529 (by decide) ?_
  exact kk f_114 _ _ hG hP hD hS ⟨(fun d9 h9 => by rw [hfo_117] at h9; obtain rfl := Option.some.inj h9; exact hT0), (fun d9 h9 => by rw [hfo_117] at h9; obtain rfl := Option.some.inj h9; exact hT1), (fun r9 d9 h8 h9 => by rw [hfo_117] at h8; obtain rfl := Option.some.inj h8; rw [hfo_119] at h9; obtain rfl := Option.some.inj h9; exact hT2), hT3, hT4, hT5, hT6, (fun z9 h9 => by rw [hfo_118] at h9; obtain rfl := Option.some.inj h9; omega), (fun y9 z9 h8 h9 => by rw [hfo_117] at h8; obtain rfl := Option.some.inj h8; rw [hfo_118] at h9; obtain rfl := Option.some.inj h9; omega), (fun y9 z9 h8 h9 => by rw [hfo_117] at h8; obtain rfl := Option.some.inj h8; rw [hfo_118] at h9; obtain rfl := Option.some.inj h9; omega)⟩ ls (lv_sub hl [0, 1, 2, 3] rfl)
set_option maxHeartbeats 8000000 in
set_option maxRecDepth 100000 in
theorem law_c16 {p : Program} {l : Launch} {e : Env} {s : State} {m : MethodId} {below : List Frame} {meth : Method} {c : Code} {dC : Nat → ClassId} {dI : Nat → Nat → Nat} {cI cL cZ cR cG cH : ClassId} {Z : zT} {kd : Nat → Nat} {L : List Nat} {b Ln : Nat} {xs : Nat → Int32} (hLn : Ln ≤ 384) (C0 : lw_At p s m meth c b Ln xs) (hK : va_K (dC, dI) vwCl (TY6 cI cL cZ cR cG cH) s) (hN : nsW s) (hZ : zW Z L s) (hLs : ∀ q ∈ L, s.heap.size ≤ q) {o1 o2 : Nat} (mo1 : o1 ∈ L) (ko1 : kd o1 = 11) (mo2 : o2 ∈ L) (ko2 : kd o2 = 12) {f : Nat → va_E} (hG : GI (okc cI cL cZ cR cG cH L kd) kd L f) {H : Heap} {locs : List Loc} (hP : va_P (dC, dI) vwCl (va_pl L f) H) (hD : va_D (fun q => q ∈ L) (va_pl L f)) (hS : va_S (fun q => q ∈ L) s.heap H locs) (hI : lawI kd f o1 o2) {i0 : Int32} (bi0 : 0 ≤ i0.toInt ∧ i0.toInt ≤ 378) (hi0 : i0.toInt + 6 ≤ (Ln : Int))
    (kk : ∀ (f1 : Nat → va_E) (H1 : Heap) (locs1 : List Loc), GI (okc cI cL cZ cR cG cH L kd) kd L f1 → va_P (dC, dI) vwCl (va_pl L f1) H1 → va_D (fun q => q ∈ L) (va_pl L f1) → va_S (fun q => q ∈ L) s.heap H1 locs1 → lawI kd f1 o1 o2 → ∀ (ls : Array Slot), lv_has ls 4 [(3, .int i0), (0, .ref b), (1, .ref o1), (2, .ref o2)] → W p l e room_1 s m #[Value.ref b] below meth c H1 locs1 559 115398 (lw_Z below #[Value.ref b] s) (F0 m 933 ls []))
    {ls : Array Slot} (hl : lv_has ls 4 [(3, .int i0), (0, .ref b), (1, .ref o1), (2, .ref o2)]) : W p l e room_1 s m #[Value.ref b] below meth c H locs 559 115398 (lw_Z below #[Value.ref b] s) (F0 m 532 ls []) := by
  obtain ⟨hx, hb, hr, hml, hown0, hts, hX, hbl, hlocks, hgv⟩ := C0
  have hown : s.vm.findClass RL = some m.cls := hown0
  have hU : ∀ w ∈ wsU, w.before #[Value.ref b] s = true := fun w h => hts w (wsU_in w h)
  have hbA : ¬ (fun q => q ∈ L) b := fun h => absurd (hLs b h) (Nat.not_le.mpr hbl)
  obtain ⟨hxtr0, hxtr1, hxtr2, hxtr3, hxtr4, hxtr5, hxtr6, hx29, hxtp, hxim⟩ := hI
  have hrr11_2 : ∀ b, kd b = 11 → fldR (f b) 2 = fldR (f b) 2 := fun _ _ => rfl
  have hrr11_3 : ∀ b, kd b = 11 → fldR (f b) 3 = fldR (f b) 3 := fun _ _ => rfl
  have hrr11_5 : ∀ b, kd b = 11 → fldR (f b) 5 = fldR (f b) 5 := fun _ _ => rfl
  have hrr11_6 : ∀ b, kd b = 11 → fldR (f b) 6 = fldR (f b) 6 := fun _ _ => rfl
  have hrr11_7 : ∀ b, kd b = 11 → fldR (f b) 7 = fldR (f b) 7 := fun _ _ => rfl
  have hrr11_9 : ∀ b, kd b = 11 → fldR (f b) 9 = fldR (f b) 9 := fun _ _ => rfl
  have hrr11_10 : ∀ b, kd b = 11 → fldR (f b) 10 = fldR (f b) 10 := fun _ _ => rfl
  have hrr11_16 : ∀ b, kd b = 11 → fldR (f b) 16 = fldR (f b) 16 := fun _ _ => rfl
  have hrr3_0 : ∀ b, kd b = 3 → fldR (f b) 0 = fldR (f b) 0 := fun _ _ => rfl
  have hrr3_3 : ∀ b, kd b = 3 → fldR (f b) 3 = fldR (f b) 3 := fun _ _ => rfl
  have hrA12 : ∀ b, kd b = 12 → ∀ j, fldR (f b) j = fldR (f b) j := fun _ _ _ => rfl
  obtain ⟨a_2, v_3, a_4, a_5, a_6, a_7, a_8, a_9, v_10, a_11, a_12, a_13, v_14, v_15, a_16, v_17, a_18, a_19, v_20, hfo_1, ⟨ma_2, ka_2⟩, bv_3, ⟨ma_4, ka_4⟩, ⟨ma_5, ka_5⟩, ⟨ma_6, ka_6⟩, ⟨ma_7, ka_7⟩, ⟨ma_8, ka_8⟩, ⟨ma_9, ka_9⟩, bv_10, ⟨ma_11, ka_11⟩, ⟨ma_12, ka_12⟩, ⟨ma_13, ka_13⟩, bv_14, ⟨ma_16, ka_16⟩, bv_17, ⟨ma_18, ka_18⟩, ⟨ma_19, ka_19⟩⟩ := un_11 (hG _ mo1) ko1
  have bv_15 : ((-2147483648) ≤ v_15.toInt ∧ v_15.toInt ≤ 2147483647) := ⟨i32_lo _, i32_hi _⟩
  have bv_20 : ((-2147483648) ≤ v_20.toInt ∧ v_20.toInt ≤ 2147483647) := ⟨i32_lo _, i32_hi _⟩
  obtain ⟨a_21, a_22, a_23, v_24, a_25, v_26, v_27, v_28, v_29, v_30, v_31, v_32, v_33, v_34, v_35, a_36, a_37, a_38, a_39, a_40, a_41, a_42, a_43, v_44, v_45, v_46, v_47, v_48, a_49, v_50, a_51, a_52, v_53, v_54, a_55, v_56, a_57, a_58, v_59, v_60, a_61, a_62, a_63, v_64, a_65, a_66, a_67, a_68, a_69, a_70, a_71, a_72, a_73, v_74, v_75, a_76, hfo_77, fa_78⟩ := un12 (hG _ mo2) ko2
  have bv_24 : (0 ≤ v_24.toInt ∧ v_24.toInt ≤ 1) := fa12_3 fa_78
  have bv_26 : (0 ≤ v_26.toInt ∧ v_26.toInt ≤ 600) := fa12_5 fa_78
  have bv_50 : (0 ≤ v_50.toInt ∧ v_50.toInt ≤ 201) := fa12_29 fa_78
  have hT0 := hxtr0 a_5 (by rw [hfo_1]; rfl)
  have hT1 := hxtr1 a_8 (by rw [hfo_1]; rfl)
  obtain ⟨a_80, a_81, a_82, a_83, a_84, v_85, v_86, v_87, v_88, v_89, v_90, v_91, a_92, a_93, a_94, v_95, a_96, a_97, hfo_79, ⟨ma_80, ka_80⟩, ⟨ma_81, ka_81⟩, ⟨ma_82, ka_82⟩, ⟨ma_83, ka_83⟩, ⟨ma_84, ka_84⟩, bv_85, bv_86, bv_87, ⟨ma_92, ka_92⟩, ⟨ma_93, ka_93⟩, ⟨ma_94, ka_94⟩, bv_95, ⟨ma_96, ka_96⟩, ⟨ma_97, ka_97⟩⟩ := un_3 (hG _ ma_4) ka_4
  have bv_88 : ((-2147483648) ≤ v_88.toInt ∧ v_88.toInt ≤ 2147483647) := ⟨i32_lo _, i32_hi _⟩
  have bv_89 : ((-2147483648) ≤ v_89.toInt ∧ v_89.toInt ≤ 2147483647) := ⟨i32_lo _, i32_hi _⟩
  have bv_90 : ((-2147483648) ≤ v_90.toInt ∧ v_90.toInt ≤ 2147483647) := ⟨i32_lo _, i32_hi _⟩
  have bv_91 : ((-2147483648) ≤ v_91.toInt ∧ v_91.toInt ≤ 2147483647) := ⟨i32_lo _, i32_hi _⟩
  have hT2 := hxtr2 a_4 a_83 (by rw [hfo_1]; rfl) (by rw [hfo_79]; rfl)
  have hT3 := hxtr3
  have hT4 := hxtr4
  have hT5 := hxtr5
  have hT6 := hxtr6
  have h29 := hx29 v_50 (by rw [hfo_77]; rfl)
  have htp := hxtp v_3 v_26 (by rw [hfo_1]; rfl) (by rw [hfo_77]; rfl)
  have him := hxim v_10 v_24 (by rw [hfo_1]; rfl) (by rw [hfo_77]; rfl)
  refine lv_aload_n hx hb dL_law_532 rfl (lv_at hl 2 rfl) ?_
  refine lv_aload_n hx hb dL_law_533 rfl (lv_at hl 1 rfl) ?_
  refine lv_iload_n hx hb dL_law_534 rfl (lv_at hl 0 rfl) ?_
  refine lv_iconst (v := 1) hx hb dL_law_535 (by decide) ?_
  refine lv_iadd hx hb dL_law_536 ?_
  refine lv_topi (fun x_98 ex_98 => ?_)
  have hx_98 : x_98.toInt = i0.toInt + 1 := by rw [ex_98, ad_I (by rw [ti_1]; omega) (by rw [ti_1]; omega), ti_1]
  have bx_98 : (1 ≤ x_98.toInt ∧ x_98.toInt ≤ 379) := by constructor <;> omega
  refine va_sld hx hb hX hbl hbA hS (vp_in_iff.mpr (by constructor <;> omega)) dL_law_537 ?_
  refine lv_topi (fun x_99 ex_99 => ?_)
  have bx_99 : ((-2147483648) ≤ x_99.toInt ∧ x_99.toInt ≤ 2147483647) := ⟨i32_lo _, i32_hi _⟩
  refine lv_aload_n hx hb dL_law_538 rfl (lv_at hl 1 rfl) ?_
  refine lv_iload_n hx hb dL_law_539 rfl (lv_at hl 0 rfl) ?_
  refine lv_iconst (v := 2) hx hb dL_law_540 (by decide) ?_
  refine lv_iadd hx hb dL_law_541 ?_
  refine lv_topi (fun x_100 ex_100 => ?_)
  have hx_100 : x_100.toInt = i0.toInt + 2 := by rw [ex_100, ad_I (by rw [ti_2]; omega) (by rw [ti_2]; omega), ti_2]
  have bx_100 : (2 ≤ x_100.toInt ∧ x_100.toInt ≤ 380) := by constructor <;> omega
  refine va_sld hx hb hX hbl hbA hS (vp_in_iff.mpr (by constructor <;> omega)) dL_law_542 ?_
  refine lv_topi (fun x_101 ex_101 => ?_)
  have bx_101 : ((-2147483648) ≤ x_101.toInt ∧ x_101.toInt ≤ 2147483647) := ⟨i32_lo _, i32_hi _⟩
  refine lv_aload_n hx hb dL_law_543 rfl (lv_at hl 1 rfl) ?_
  refine lv_iload_n hx hb dL_law_544 rfl (lv_at hl 0 rfl) ?_
  refine lv_iconst (v := 3) hx hb dL_law_545 (by decide) ?_
  refine lv_iadd hx hb dL_law_546 ?_
  refine lv_topi (fun x_102 ex_102 => ?_)
  have hx_102 : x_102.toInt = i0.toInt + 3 := by rw [ex_102, ad_I (by rw [ti_3]; omega) (by rw [ti_3]; omega), ti_3]
  have bx_102 : (3 ≤ x_102.toInt ∧ x_102.toInt ≤ 381) := by constructor <;> omega
  refine va_sld hx hb hX hbl hbA hS (vp_in_iff.mpr (by constructor <;> omega)) dL_law_547 ?_
  refine lv_topi (fun x_103 ex_103 => ?_)
  have bx_103 : ((-2147483648) ≤ x_103.toInt ∧ x_103.toInt ≤ 2147483647) := ⟨i32_lo _, i32_hi _⟩
  refine tk_ViP (As := [.int x_99, .int x_101, .int x_103]) (rest := []) (n := 3) hx hb hml hown hU hN hZ (s_X11_lives_k11 l (dC, dI) cI cL cZ cR cG cH Z kd L f hG o1 mo1 ko1 x_99 x_101 x_103 (fun r9 d9 h8 h9 => by rw [hfo_1] at h8; obtain rfl := Option.some.inj h8; rw [hfo_79] at h9; obtain rfl := Option.some.inj h9; exact hT2)) wd_1147 wd_1148 wd_1149 wd_2 wd_1150 (by decide +kernel) ⟨Nat.le_of_ble_eq_true rfl, Nat.le_of_ble_eq_true rfl⟩ hK hP hD hS mo1 hfo_1 11 rfl rfl rfl hl.1 rfl (Nat.le_of_ble_eq_true rfl) dL_law_548 ⟨Nat.le_of_ble_eq_true rfl, Nat.le_of_ble_eq_true rfl⟩ (fun x_104 f_105 H locs hw hP hD hS => ?_)
  obtain ⟨hG, bx_104, hkc_106, hrc_107, hrc_108, hrc_109, hrc_110, hTc_111⟩ := hw
  have hfo_113 : f_105 o1 = .inr (11, [.ref a_2, .int v_3, .ref a_4, .ref a_5, .ref a_6, .ref a_7, .ref a_8, .ref a_9, .int v_10, .ref a_11, .ref a_12, .ref a_13, .int v_14, .int v_15, .ref a_16, .int v_17, .ref a_18, .ref a_19, .int v_20]) := by rw [hkc_106 o1 (by rw [ko1]; decide) (by rw [ko1]; decide) (by rw [ko1]; decide) (by rw [ko1]; decide) (by rw [ko1]; decide) (by rw [ko1]; decide) (by rw [ko1]; decide) (by rw [ko1]; decide) (by rw [ko1]; decide) (by rw [ko1]; decide) (by rw [ko1]; decide) (by rw [ko1]; decide) (by rw [ko1]; decide) (by rw [ko1]; decide) (by rw [ko1]; decide)]; exact hfo_1
  have hfo_114 : f_105 o2 = .inr (12, [.ref a_21, .ref a_22, .ref a_23, .int v_24, .ref a_25, .int v_26, .int v_27, .int v_28, .int v_29, .int v_30, .int v_31, .int v_32, .int v_33, .int v_34, .int v_35, .ref a_36, .ref a_37, .ref a_38, .ref a_39, .ref a_40, .ref a_41, .ref a_42, .ref a_43, .int v_44, .int v_45, .int v_46, .int v_47, .int v_48, .ref a_49, .int v_50, .ref a_51, .ref a_52, .int v_53, .int v_54, .ref a_55, .int v_56, .ref a_57, .ref a_58, .int v_59, .int v_60, .ref a_61, .ref a_62, .ref a_63, .int v_64, .ref a_65, .ref a_66, .ref a_67, .ref a_68, .ref a_69, .ref a_70, .ref a_71, .ref a_72, .ref a_73, .int v_74, .int v_75, .ref a_76]) := by rw [hkc_106 o2 (by rw [ko2]; decide) (by rw [ko2]; decide) (by rw [ko2]; decide) (by rw [ko2]; decide) (by rw [ko2]; decide) (by rw [ko2]; decide) (by rw [ko2]; decide) (by rw [ko2]; decide) (by rw [ko2]; decide) (by rw [ko2]; decide) (by rw [ko2]; decide) (by rw [ko2]; decide) (by rw [ko2]; decide) (by rw [ko2]; decide) (by rw [ko2]; decide)]; exact hfo_77
  have hrr11_2 : ∀ b, kd b = 11 → fldR (f_105 b) 2 = fldR (f b) 2 := fun b kb => (congrArg (fun x => fldR x 2) (hkc_106 b (by rw [kb]; decide) (by rw [kb]; decide) (by rw [kb]; decide) (by rw [kb]; decide) (by rw [kb]; decide) (by rw [kb]; decide) (by rw [kb]; decide) (by rw [kb]; decide) (by rw [kb]; decide) (by rw [kb]; decide) (by rw [kb]; decide) (by rw [kb]; decide) (by rw [kb]; decide) (by rw [kb]; decide) (by rw [kb]; decide))).trans (hrr11_2 b kb)
  have hrr11_3 : ∀ b, kd b = 11 → fldR (f_105 b) 3 = fldR (f b) 3 := fun b kb => (congrArg (fun x => fldR x 3) (hkc_106 b (by rw [kb]; decide) (by rw [kb]; decide) (by rw [kb]; decide) (by rw [kb]; decide) (by rw [kb]; decide) (by rw [kb]; decide) (by rw [kb]; decide) (by rw [kb]; decide) (by rw [kb]; decide) (by rw [kb]; decide) (by rw [kb]; decide) (by rw [kb]; decide) (by rw [kb]; decide) (by rw [kb]; decide) (by rw [kb]; decide))).trans (hrr11_3 b kb)
  have hrr11_5 : ∀ b, kd b = 11 → fldR (f_105 b) 5 = fldR (f b) 5 := fun b kb => (congrArg (fun x => fldR x 5) (hkc_106 b (by rw [kb]; decide) (by rw [kb]; decide) (by rw [kb]; decide) (by rw [kb]; decide) (by rw [kb]; decide) (by rw [kb]; decide) (by rw [kb]; decide) (by rw [kb]; decide) (by rw [kb]; decide) (by rw [kb]; decide) (by rw [kb]; decide) (by rw [kb]; decide) (by rw [kb]; decide) (by rw [kb]; decide) (by rw [kb]; decide))).trans (hrr11_5 b kb)
  have hrr11_6 : ∀ b, kd b = 11 → fldR (f_105 b) 6 = fldR (f b) 6 := fun b kb => (congrArg (fun x => fldR x 6) (hkc_106 b (by rw [kb]; decide) (by rw [kb]; decide) (by rw [kb]; decide) (by rw [kb]; decide) (by rw [kb]; decide) (by rw [kb]; decide) (by rw [kb]; decide) (by rw [kb]; decide) (by rw [kb]; decide) (by rw [kb]; decide) (by rw [kb]; decide) (by rw [kb]; decide) (by rw [kb]; decide) (by rw [kb]; decide) (by rw [kb]; decide))).trans (hrr11_6 b kb)
  have hrr11_7 : ∀ b, kd b = 11 → fldR (f_105 b) 7 = fldR (f b) 7 := fun b kb => (congrArg (fun x => fldR x 7) (hkc_106 b (by rw [kb]; decide) (by rw [kb]; decide) (by rw [kb]; decide) (by rw [kb]; decide) (by rw [kb]; decide) (by rw [kb]; decide) (by rw [kb]; decide) (by rw [kb]; decide) (by rw [kb]; decide) (by rw [kb]; decide) (by rw [kb]; decide) (by rw [kb]; decide) (by rw [kb]; decide) (by rw [kb]; decide) (by rw [kb]; decide))).trans (hrr11_7 b kb)
  have hrr11_9 : ∀ b, kd b = 11 → fldR (f_105 b) 9 = fldR (f b) 9 := fun b kb => (congrArg (fun x => fldR x 9) (hkc_106 b (by rw [kb]; decide) (by rw [kb]; decide) (by rw [kb]; decide) (by rw [kb]; decide) (by rw [kb]; decide) (by rw [kb]; decide) (by rw [kb]; decide) (by rw [kb]; decide) (by rw [kb]; decide) (by rw [kb]; decide) (by rw [kb]; decide) (by rw [kb]; decide) (by rw [kb]; decide) (by rw [kb]; decide) (by rw [kb]; decide))).trans (hrr11_9 b kb)
  have hrr11_10 : ∀ b, kd b = 11 → fldR (f_105 b) 10 = fldR (f b) 10 := fun b kb => (congrArg (fun x => fldR x 10) (hkc_106 b (by rw [kb]; decide) (by rw [kb]; decide) (by rw [kb]; decide) (by rw [kb]; decide) (by rw [kb]; decide) (by rw [kb]; decide) (by rw [kb]; decide) (by rw [kb]; decide) (by rw [kb]; decide) (by rw [kb]; decide) (by rw [kb]; decide) (by rw [kb]; decide) (by rw [kb]; decide) (by rw [kb]; decide) (by rw [kb]; decide))).trans (hrr11_10 b kb)
  have hrr11_16 : ∀ b, kd b = 11 → fldR (f_105 b) 16 = fldR (f b) 16 := fun b kb => (congrArg (fun x => fldR x 16) (hkc_106 b (by rw [kb]; decide) (by rw [kb]; decide) (by rw [kb]; decide) (by rw [kb]; decide) (by rw [kb]; decide) (by rw [kb]; decide) (by rw [kb]; decide) (by rw [kb]; decide) (by rw [kb]; decide) (by rw [kb]; decide) (by rw [kb]; decide) (by rw [kb]; decide) (by rw [kb]; decide) (by rw [kb]; decide) (by rw [kb]; decide))).trans (hrr11_16 b kb)
  have hrr3_0 : ∀ b, kd b = 3 → fldR (f_105 b) 0 = fldR (f b) 0 := fun b kb => (hrc_109 b kb).trans (hrr3_0 b kb)
  have hrr3_3 : ∀ b, kd b = 3 → fldR (f_105 b) 3 = fldR (f b) 3 := fun b kb => (hrc_110 b kb).trans (hrr3_3 b kb)
  have hrA12 : ∀ b, kd b = 12 → ∀ j, fldR (f_105 b) j = fldR (f b) j := fun b kb j => (congrArg (fun x => fldR x j) (hkc_106 b (by rw [kb]; decide) (by rw [kb]; decide) (by rw [kb]; decide) (by rw [kb]; decide) (by rw [kb]; decide) (by rw [kb]; decide) (by rw [kb]; decide) (by rw [kb]; decide) (by rw [kb]; decide) (by rw [kb]; decide) (by rw [kb]; decide) (by rw [kb]; decide) (by rw [kb]; decide) (by rw [kb]; decide) (by rw [kb]; decide))).trans (hrA12 b kb j)
  have hT0 : trel kd 7 508 510 515 4 f_105 a_5 := hT0.keep (fun b q => hkc_106 b (by rw [q]; decide) (by rw [q]; decide) (by rw [q]; decide) (by rw [q]; decide) (by rw [q]; decide) (by rw [q]; decide) (by rw [q]; decide) (by rw [q]; decide) (by rw [q]; decide) (by rw [q]; decide) (by rw [q]; decide) (by rw [q]; decide) (by rw [q]; decide) (by rw [q]; decide) (by rw [q]; decide)) (fun b q => hkc_106 b (by rw [q]; decide) (by rw [q]; decide) (by rw [q]; decide) (by rw [q]; decide) (by rw [q]; decide) (by rw [q]; decide) (by rw [q]; decide) (by rw [q]; decide) (by rw [q]; decide) (by rw [q]; decide) (by rw [q]; decide) (by rw [q]; decide) (by rw [q]; decide) (by rw [q]; decide) (by rw [q]; decide)) (fun b q => hkc_106 b (by rw [q]; decide) (by rw [q]; decide) (by rw [q]; decide) (by rw [q]; decide) (by rw [q]; decide) (by rw [q]; decide) (by rw [q]; decide) (by rw [q]; decide) (by rw [q]; decide) (by rw [q]; decide) (by rw [q]; decide) (by rw [q]; decide) (by rw [q]; decide) (by rw [q]; decide) (by rw [q]; decide)) (fun b q => hkc_106 b (by rw [q]; decide) (by rw [q]; decide) (by rw [q]; decide) (by rw [q]; decide) (by rw [q]; decide) (by rw [q]; decide) (by rw [q]; decide) (by rw [q]; decide) (by rw [q]; decide) (by rw [q]; decide) (by rw [q]; decide) (by rw [q]; decide) (by rw [q]; decide) (by rw [q]; decide) (by rw [q]; decide)) (fun b q => congrArg (fun x => fldI x 1) (hkc_106 b (by rw [q]; decide) (by rw [q]; decide) (by rw [q]; decide) (by rw [q]; decide) (by rw [q]; decide) (by rw [q]; decide) (by rw [q]; decide) (by rw [q]; decide) (by rw [q]; decide) (by rw [q]; decide) (by rw [q]; decide) (by rw [q]; decide) (by rw [q]; decide) (by rw [q]; decide) (by rw [q]; decide)))
  have hT1 : trel kd 107 549 551 556 104 f_105 a_8 := hT1.keep (fun b q => hkc_106 b (by rw [q]; decide) (by rw [q]; decide) (by rw [q]; decide) (by rw [q]; decide) (by rw [q]; decide) (by rw [q]; decide) (by rw [q]; decide) (by rw [q]; decide) (by rw [q]; decide) (by rw [q]; decide) (by rw [q]; decide) (by rw [q]; decide) (by rw [q]; decide) (by rw [q]; decide) (by rw [q]; decide)) (fun b q => hkc_106 b (by rw [q]; decide) (by rw [q]; decide) (by rw [q]; decide) (by rw [q]; decide) (by rw [q]; decide) (by rw [q]; decide) (by rw [q]; decide) (by rw [q]; decide) (by rw [q]; decide) (by rw [q]; decide) (by rw [q]; decide) (by rw [q]; decide) (by rw [q]; decide) (by rw [q]; decide) (by rw [q]; decide)) (fun b q => hkc_106 b (by rw [q]; decide) (by rw [q]; decide) (by rw [q]; decide) (by rw [q]; decide) (by rw [q]; decide) (by rw [q]; decide) (by rw [q]; decide) (by rw [q]; decide) (by rw [q]; decide) (by rw [q]; decide) (by rw [q]; decide) (by rw [q]; decide) (by rw [q]; decide) (by rw [q]; decide) (by rw [q]; decide)) (fun b q => hkc_106 b (by rw [q]; decide) (by rw [q]; decide) (by rw [q]; decide) (by rw [q]; decide) (by rw [q]; decide) (by rw [q]; decide) (by rw [q]; decide) (by rw [q]; decide) (by rw [q]; decide) (by rw [q]; decide) (by rw [q]; decide) (by rw [q]; decide) (by rw [q]; decide) (by rw [q]; decide) (by rw [q]; decide)) (fun b q => congrArg (fun x => fldI x 1) (hkc_106 b (by rw [q]; decide) (by rw [q]; decide) (by rw [q]; decide) (by rw [q]; decide) (by rw [q]; decide) (by rw [q]; decide) (by rw [q]; decide) (by rw [q]; decide) (by rw [q]; decide) (by rw [q]; decide) (by rw [q]; decide) (by rw [q]; decide) (by rw [q]; decide) (by rw [q]; decide) (by rw [q]; decide)))
  have hT3 : urel kd 5 3 6 7 f_105 o1 := hT3.keep (fun b q => congrArg (fun x => fldR x 5) (hkc_106 b (by rw [q]; decide) (by rw [q]; decide) (by rw [q]; decide) (by rw [q]; decide) (by rw [q]; decide) (by rw [q]; decide) (by rw [q]; decide) (by rw [q]; decide) (by rw [q]; decide) (by rw [q]; decide) (by rw [q]; decide) (by rw [q]; decide) (by rw [q]; decide) (by rw [q]; decide) (by rw [q]; decide))) (fun b q => congrArg (fun x => fldR x 3) (hkc_106 b (by rw [q]; decide) (by rw [q]; decide) (by rw [q]; decide) (by rw [q]; decide) (by rw [q]; decide) (by rw [q]; decide) (by rw [q]; decide) (by rw [q]; decide) (by rw [q]; decide) (by rw [q]; decide) (by rw [q]; decide) (by rw [q]; decide) (by rw [q]; decide) (by rw [q]; decide) (by rw [q]; decide))) (fun b q => congrArg (fun x => fldI x 0) (hkc_106 b (by rw [q]; decide) (by rw [q]; decide) (by rw [q]; decide) (by rw [q]; decide) (by rw [q]; decide) (by rw [q]; decide) (by rw [q]; decide) (by rw [q]; decide) (by rw [q]; decide) (by rw [q]; decide) (by rw [q]; decide) (by rw [q]; decide) (by rw [q]; decide) (by rw [q]; decide) (by rw [q]; decide))) (fun b q => congrArg (fun x => fldI x 12) (hkc_106 b (by rw [q]; decide) (by rw [q]; decide) (by rw [q]; decide) (by rw [q]; decide) (by rw [q]; decide) (by rw [q]; decide) (by rw [q]; decide) (by rw [q]; decide) (by rw [q]; decide) (by rw [q]; decide) (by rw [q]; decide) (by rw [q]; decide) (by rw [q]; decide) (by rw [q]; decide) (by rw [q]; decide)))
  have hT4 : urel kd 7 6 106 107 f_105 o1 := hT4.keep (fun b q => congrArg (fun x => fldR x 7) (hkc_106 b (by rw [q]; decide) (by rw [q]; decide) (by rw [q]; decide) (by rw [q]; decide) (by rw [q]; decide) (by rw [q]; decide) (by rw [q]; decide) (by rw [q]; decide) (by rw [q]; decide) (by rw [q]; decide) (by rw [q]; decide) (by rw [q]; decide) (by rw [q]; decide) (by rw [q]; decide) (by rw [q]; decide))) (fun b q => congrArg (fun x => fldR x 6) (hkc_106 b (by rw [q]; decide) (by rw [q]; decide) (by rw [q]; decide) (by rw [q]; decide) (by rw [q]; decide) (by rw [q]; decide) (by rw [q]; decide) (by rw [q]; decide) (by rw [q]; decide) (by rw [q]; decide) (by rw [q]; decide) (by rw [q]; decide) (by rw [q]; decide) (by rw [q]; decide) (by rw [q]; decide))) (fun b q => congrArg (fun x => fldI x 0) (hkc_106 b (by rw [q]; decide) (by rw [q]; decide) (by rw [q]; decide) (by rw [q]; decide) (by rw [q]; decide) (by rw [q]; decide) (by rw [q]; decide) (by rw [q]; decide) (by rw [q]; decide) (by rw [q]; decide) (by rw [q]; decide) (by rw [q]; decide) (by rw [q]; decide) (by rw [q]; decide) (by rw [q]; decide))) (fun b q => congrArg (fun x => fldI x 12) (hkc_106 b (by rw [q]; decide) (by rw [q]; decide) (by rw [q]; decide) (by rw [q]; decide) (by rw [q]; decide) (by rw [q]; decide) (by rw [q]; decide) (by rw [q]; decide) (by rw [q]; decide) (by rw [q]; decide) (by rw [q]; decide) (by rw [q]; decide) (by rw [q]; decide) (by rw [q]; decide) (by rw [q]; decide)))
  have hT5 : alrel kd f_105 o1 := hT5.keep (fun b q => congrArg (fun x => fldR x 2) (hkc_106 b (by rw [q]; decide) (by rw [q]; decide) (by rw [q]; decide) (by rw [q]; decide) (by rw [q]; decide) (by rw [q]; decide) (by rw [q]; decide) (by rw [q]; decide) (by rw [q]; decide) (by rw [q]; decide) (by rw [q]; decide) (by rw [q]; decide) (by rw [q]; decide) (by rw [q]; decide) (by rw [q]; decide))) (fun b q => congrArg (fun x => fldR x 3) (hkc_106 b (by rw [q]; decide) (by rw [q]; decide) (by rw [q]; decide) (by rw [q]; decide) (by rw [q]; decide) (by rw [q]; decide) (by rw [q]; decide) (by rw [q]; decide) (by rw [q]; decide) (by rw [q]; decide) (by rw [q]; decide) (by rw [q]; decide) (by rw [q]; decide) (by rw [q]; decide) (by rw [q]; decide))) (fun b q => hrc_109 b q)
  have hT6 : srel kd 592 f_105 o2 := hT6.keep (fun b q => congrArg (fun x => fldR x 30) (hkc_106 b (by rw [q]; decide) (by rw [q]; decide) (by rw [q]; decide) (by rw [q]; decide) (by rw [q]; decide) (by rw [q]; decide) (by rw [q]; decide) (by rw [q]; decide) (by rw [q]; decide) (by rw [q]; decide) (by rw [q]; decide) (by rw [q]; decide) (by rw [q]; decide) (by rw [q]; decide) (by rw [q]; decide))) (fun b q => congrArg (fun x => fldI x 32) (hkc_106 b (by rw [q]; decide) (by rw [q]; decide) (by rw [q]; decide) (by rw [q]; decide) (by rw [q]; decide) (by rw [q]; decide) (by rw [q]; decide) (by rw [q]; decide) (by rw [q]; decide) (by rw [q]; decide) (by rw [q]; decide) (by rw [q]; decide) (by rw [q]; decide) (by rw [q]; decide) (by rw [q]; decide))) (fun b q => congrArg (fun x => fldI x 33) (hkc_106 b (by rw [q]; decide) (by rw [q]; decide) (by rw [q]; decide) (by rw [q]; decide) (by rw [q]; decide) (by rw [q]; decide) (by rw [q]; decide) (by rw [q]; decide) (by rw [q]; decide) (by rw [q]; decide) (by rw [q]; decide) (by rw [q]; decide) (by rw [q]; decide) (by rw [q]; decide) (by rw [q]; decide))) (fun b q => hkc_106 b (by rw [q]; decide) (by rw [q]; decide) (by rw [q]; decide) (by rw [q]; decide) (by rw [q]; decide) (by rw [q]; decide) (by rw [q]; decide) (by rw [q]; decide) (by rw [q]; decide) (by rw [q]; decide) (by rw [q]; decide) (by rw [q]; decide) (by rw [q]; decide) (by rw [q]; decide) (by rw [q]; decide))
  obtain ⟨a_116, a_117, a_118, a_119, a_120, v_121, v_122, v_123, v_124, v_125, v_126, v_127, a_128, a_129, a_130, v_131, a_132, a_133, hfo_115, ⟨ma_116, ka_116⟩, ⟨ma_117, ka_117⟩, ⟨ma_118, ka_118⟩, ⟨ma_119, ka_119⟩, ⟨ma_120, ka_120⟩, bv_121, bv_122, bv_123, ⟨ma_128, ka_128⟩, ⟨ma_129, ka_129⟩, ⟨ma_130, ka_130⟩, bv_131, ⟨ma_132, ka_132⟩, ⟨ma_133, ka_133⟩⟩ := un_3 (hG _ ma_4) ka_4
  have bv_124 : ((-2147483648) ≤ v_124.toInt ∧ v_124.toInt ≤ 2147483647) := ⟨i32_lo _, i32_hi _⟩
  have bv_125 : ((-2147483648) ≤ v_125.toInt ∧ v_125.toInt ≤ 2147483647) := ⟨i32_lo _, i32_hi _⟩
  have bv_126 : ((-2147483648) ≤ v_126.toInt ∧ v_126.toInt ≤ 2147483647) := ⟨i32_lo _, i32_hi _⟩
  have bv_127 : ((-2147483648) ≤ v_127.toInt ∧ v_127.toInt ≤ 2147483647) := ⟨i32_lo _, i32_hi _⟩
  obtain rfl : a_80 = a_116 := by have hk9 := hrr3_0 a_4 ka_4; rw [hfo_115, hfo_79] at hk9; exact (Option.some.inj hk9).symm
  obtain rfl : a_83 = a_119 := by have hk9 := hrr3_3 a_4 ka_4; rw [hfo_115, hfo_79] at hk9; exact (Option.some.inj hk9).symm
  have hT_134 := hTc_111 a_4 a_83 (by rw [hfo_113]; rfl) (by rw [hfo_115]; rfl)
  refine lv_pop hx hb dL_law_551 rfl ?_
  refine lv_aload_n hx hb dL_law_552 rfl (lv_at hl 3 rfl) ?_
  refine lv_aload_n hx hb dL_law_553 rfl (lv_at hl 1 rfl) ?_
  refine lv_iload_n hx hb dL_law_554 rfl (lv_at hl 0 rfl) ?_
  refine lv_iconst (v := 1) hx hb dL_law_555 (by decide) ?_
  refine lv_iadd hx hb dL_law_556 ?_
  refine lv_topi (fun x_135 ex_135 => ?_)
  have hx_135 : x_135.toInt = i0.toInt + 1 := by rw [ex_135, ad_I (by rw [ti_1]; omega) (by rw [ti_1]; omega), ti_1]
  have bx_135 : (1 ≤ x_135.toInt ∧ x_135.toInt ≤ 379) := by constructor <;> omega
  refine va_sld hx hb hX hbl hbA hS (vp_in_iff.mpr (by constructor <;> omega)) dL_law_557 ?_
  refine lv_topi (fun x_136 ex_136 => ?_)
  have bx_136 : ((-2147483648) ≤ x_136.toInt ∧ x_136.toInt ≤ 2147483647) := ⟨i32_lo _, i32_hi _⟩
  have hsmx_136 : x_136.toInt = x_99.toInt := by rw [ex_136, ex_135, ex_99, ex_98]
  refine lv_aload_n hx hb dL_law_558 rfl (lv_at hl 1 rfl) ?_
  refine lv_iload_n hx hb dL_law_559 rfl (lv_at hl 0 rfl) ?_
  refine lv_iconst (v := 2) hx hb dL_law_560 (by decide) ?_
  refine lv_iadd hx hb dL_law_561 ?_
  refine lv_topi (fun x_137 ex_137 => ?_)
  have hx_137 : x_137.toInt = i0.toInt + 2 := by rw [ex_137, ad_I (by rw [ti_2]; omega) (by rw [ti_2]; omega), ti_2]
  have bx_137 : (2 ≤ x_137.toInt ∧ x_137.toInt ≤ 380) := by constructor <;> omega
  refine va_sld hx hb hX hbl hbA hS (vp_in_iff.mpr (by constructor <;> omega)) dL_law_562 ?_
  refine lv_topi (fun x_138 ex_138 => ?_)
  have bx_138 : ((-2147483648) ≤ x_138.toInt ∧ x_138.toInt ≤ 2147483647) := ⟨i32_lo _, i32_hi _⟩
  have hsmx_138 : x_138.toInt = x_101.toInt := by rw [ex_138, ex_137, ex_101, ex_100]
  refine lv_aload_n hx hb dL_law_563 rfl (lv_at hl 1 rfl) ?_
  refine lv_iload_n hx hb dL_law_564 rfl (lv_at hl 0 rfl) ?_
  refine lv_iconst (v := 3) hx hb dL_law_565 (by decide) ?_
  refine lv_iadd hx hb dL_law_566 ?_
  refine lv_topi (fun x_139 ex_139 => ?_)
  have hx_139 : x_139.toInt = i0.toInt + 3 := by rw [ex_139, ad_I (by rw [ti_3]; omega) (by rw [ti_3]; omega), ti_3]
  have bx_139 : (3 ≤ x_139.toInt ∧ x_139.toInt ≤ 381) := by constructor <;> omega
  refine va_sld hx hb hX hbl hbA hS (vp_in_iff.mpr (by constructor <;> omega)) dL_law_567 ?_
  refine lv_topi (fun x_140 ex_140 => ?_)
  have bx_140 : ((-2147483648) ≤ x_140.toInt ∧ x_140.toInt ≤ 2147483647) := ⟨i32_lo _, i32_hi _⟩
  have hsmx_140 : x_140.toInt = x_103.toInt := by rw [ex_140, ex_139, ex_103, ex_102]
  refine tk_ViP (As := [.int x_136, .int x_138, .int x_140]) (rest := []) (n := 3) hx hb hml hown hU hN hZ (s_X12_lives_k12 l (dC, dI) cI cL cZ cR cG cH Z kd L f_105 hG o2 mo2 ko2 x_136 x_138 x_140 (by intro w29 e29; rw [hfo_114] at e29; obtain rfl := Option.some.inj e29; omega) hT6) wd_1165 wd_1166 wd_1167 wd_5 wd_1168 (by decide +kernel) ⟨Nat.le_of_ble_eq_true rfl, Nat.le_of_ble_eq_true rfl⟩ hK hP hD hS mo2 hfo_114 12 rfl rfl rfl hl.1 rfl (Nat.le_of_ble_eq_true rfl) dL_law_568 ⟨Nat.le_of_ble_eq_true rfl, Nat.le_of_ble_eq_true rfl⟩ (fun x_141 f_142 H locs hw hP hD hS => ?_)
  obtain ⟨hG, bx_141, hkc_143, hra_144, hfa_145, hpost_146, hTc_147⟩ := hw
  have hfo_149 : f_142 o1 = .inr (11, [.ref a_2, .int v_3, .ref a_4, .ref a_5, .ref a_6, .ref a_7, .ref a_8, .ref a_9, .int v_10, .ref a_11, .ref a_12, .ref a_13, .int v_14, .int v_15, .ref a_16, .int v_17, .ref a_18, .ref a_19, .int v_20]) := by rw [hkc_143 o1 (by rw [ko1]; decide) (by rw [ko1]; decide) (by rw [ko1]; decide) (by rw [ko1]; decide) (by rw [ko1]; decide) (by rw [ko1]; decide) (by rw [ko1]; decide) (by rw [ko1]; decide) (by rw [ko1]; decide) (by rw [ko1]; decide) (by rw [ko1]; decide) (by rw [ko1]; decide) (by rw [ko1]; decide)]; exact hfo_113
  have hfo_150 : f_142 a_4 = .inr (3, [.ref a_80, .ref a_117, .ref a_118, .ref a_83, .ref a_120, .int v_121, .int v_122, .int v_123, .int v_124, .int v_125, .int v_126, .int v_127, .ref a_128, .ref a_129, .ref a_130, .int v_131, .ref a_132, .ref a_133]) := by rw [hkc_143 a_4 (by rw [ka_4]; decide) (by rw [ka_4]; decide) (by rw [ka_4]; decide) (by rw [ka_4]; decide) (by rw [ka_4]; decide) (by rw [ka_4]; decide) (by rw [ka_4]; decide) (by rw [ka_4]; decide) (by rw [ka_4]; decide) (by rw [ka_4]; decide) (by rw [ka_4]; decide) (by rw [ka_4]; decide) (by rw [ka_4]; decide)]; exact hfo_115
  have hrr11_2 : ∀ b, kd b = 11 → fldR (f_142 b) 2 = fldR (f b) 2 := fun b kb => (congrArg (fun x => fldR x 2) (hkc_143 b (by rw [kb]; decide) (by rw [kb]; decide) (by rw [kb]; decide) (by rw [kb]; decide) (by rw [kb]; decide) (by rw [kb]; decide) (by rw [kb]; decide) (by rw [kb]; decide) (by rw [kb]; decide) (by rw [kb]; decide) (by rw [kb]; decide) (by rw [kb]; decide) (by rw [kb]; decide))).trans (hrr11_2 b kb)
  have hrr11_3 : ∀ b, kd b = 11 → fldR (f_142 b) 3 = fldR (f b) 3 := fun b kb => (congrArg (fun x => fldR x 3) (hkc_143 b (by rw [kb]; decide) (by rw [kb]; decide) (by rw [kb]; decide) (by rw [kb]; decide) (by rw [kb]; decide) (by rw [kb]; decide) (by rw [kb]; decide) (by rw [kb]; decide) (by rw [kb]; decide) (by rw [kb]; decide) (by rw [kb]; decide) (by rw [kb]; decide) (by rw [kb]; decide))).trans (hrr11_3 b kb)
  have hrr11_5 : ∀ b, kd b = 11 → fldR (f_142 b) 5 = fldR (f b) 5 := fun b kb => (congrArg (fun x => fldR x 5) (hkc_143 b (by rw [kb]; decide) (by rw [kb]; decide) (by rw [kb]; decide) (by rw [kb]; decide) (by rw [kb]; decide) (by rw [kb]; decide) (by rw [kb]; decide) (by rw [kb]; decide) (by rw [kb]; decide) (by rw [kb]; decide) (by rw [kb]; decide) (by rw [kb]; decide) (by rw [kb]; decide))).trans (hrr11_5 b kb)
  have hrr11_6 : ∀ b, kd b = 11 → fldR (f_142 b) 6 = fldR (f b) 6 := fun b kb => (congrArg (fun x => fldR x 6) (hkc_143 b (by rw [kb]; decide) (by rw [kb]; decide) (by rw [kb]; decide) (by rw [kb]; decide) (by rw [kb]; decide) (by rw [kb]; decide) (by rw [kb]; decide) (by rw [kb]; decide) (by rw [kb]; decide) (by rw [kb]; decide) (by rw [kb]; decide) (by rw [kb]; decide) (by rw [kb]; decide))).trans (hrr11_6 b kb)
  have hrr11_7 : ∀ b, kd b = 11 → fldR (f_142 b) 7 = fldR (f b) 7 := fun b kb => (congrArg (fun x => fldR x 7) (hkc_143 b (by rw [kb]; decide) (by rw [kb]; decide) (by rw [kb]; decide) (by rw [kb]; decide) (by rw [kb]; decide) (by rw [kb]; decide) (by rw [kb]; decide) (by rw [kb]; decide) (by rw [kb]; decide) (by rw [kb]; decide) (by rw [kb]; decide) (by rw [kb]; decide) (by rw [kb]; decide))).trans (hrr11_7 b kb)
  have hrr11_9 : ∀ b, kd b = 11 → fldR (f_142 b) 9 = fldR (f b) 9 := fun b kb => (congrArg (fun x => fldR x 9) (hkc_143 b (by rw [kb]; decide) (by rw [kb]; decide) (by rw [kb]; decide) (by rw [kb]; decide) (by rw [kb]; decide) (by rw [kb]; decide) (by rw [kb]; decide) (by rw [kb]; decide) (by rw [kb]; decide) (by rw [kb]; decide) (by rw [kb]; decide) (by rw [kb]; decide) (by rw [kb]; decide))).trans (hrr11_9 b kb)
  have hrr11_10 : ∀ b, kd b = 11 → fldR (f_142 b) 10 = fldR (f b) 10 := fun b kb => (congrArg (fun x => fldR x 10) (hkc_143 b (by rw [kb]; decide) (by rw [kb]; decide) (by rw [kb]; decide) (by rw [kb]; decide) (by rw [kb]; decide) (by rw [kb]; decide) (by rw [kb]; decide) (by rw [kb]; decide) (by rw [kb]; decide) (by rw [kb]; decide) (by rw [kb]; decide) (by rw [kb]; decide) (by rw [kb]; decide))).trans (hrr11_10 b kb)
  have hrr11_16 : ∀ b, kd b = 11 → fldR (f_142 b) 16 = fldR (f b) 16 := fun b kb => (congrArg (fun x => fldR x 16) (hkc_143 b (by rw [kb]; decide) (by rw [kb]; decide) (by rw [kb]; decide) (by rw [kb]; decide) (by rw [kb]; decide) (by rw [kb]; decide) (by rw [kb]; decide) (by rw [kb]; decide) (by rw [kb]; decide) (by rw [kb]; decide) (by rw [kb]; decide) (by rw [kb]; decide) (by rw [kb]; decide))).trans (hrr11_16 b kb)
  have hrr3_0 : ∀ b, kd b = 3 → fldR (f_142 b) 0 = fldR (f b) 0 := fun b kb => (congrArg (fun x => fldR x 0) (hkc_143 b (by rw [kb]; decide) (by rw [kb]; decide) (by rw [kb]; decide) (by rw [kb]; decide) (by rw [kb]; decide) (by rw [kb]; decide) (by rw [kb]; decide) (by rw [kb]; decide) (by rw [kb]; decide) (by rw [kb]; decide) (by rw [kb]; decide) (by rw [kb]; decide) (by rw [kb]; decide))).trans (hrr3_0 b kb)
  have hrr3_3 : ∀ b, kd b = 3 → fldR (f_142 b) 3 = fldR (f b) 3 := fun b kb => (congrArg (fun x => fldR x 3) (hkc_143 b (by rw [kb]; decide) (by rw [kb]; decide) (by rw [kb]; decide) (by rw [kb]; decide) (by rw [kb]; decide) (by rw [kb]; decide) (by rw [kb]; decide) (by rw [kb]; decide) (by rw [kb]; decide) (by rw [kb]; decide) (by rw [kb]; decide) (by rw [kb]; decide) (by rw [kb]; decide))).trans (hrr3_3 b kb)
  have hrA12 : ∀ b, kd b = 12 → ∀ j, fldR (f_142 b) j = fldR (f b) j := fun b kb j => (hra_144 b kb j).trans (hrA12 b kb j)
  have hT0 : trel kd 7 508 510 515 4 f_142 a_5 := hT0.keep (fun b q => hkc_143 b (by rw [q]; decide) (by rw [q]; decide) (by rw [q]; decide) (by rw [q]; decide) (by rw [q]; decide) (by rw [q]; decide) (by rw [q]; decide) (by rw [q]; decide) (by rw [q]; decide) (by rw [q]; decide) (by rw [q]; decide) (by rw [q]; decide) (by rw [q]; decide)) (fun b q => hkc_143 b (by rw [q]; decide) (by rw [q]; decide) (by rw [q]; decide) (by rw [q]; decide) (by rw [q]; decide) (by rw [q]; decide) (by rw [q]; decide) (by rw [q]; decide) (by rw [q]; decide) (by rw [q]; decide) (by rw [q]; decide) (by rw [q]; decide) (by rw [q]; decide)) (fun b q => hkc_143 b (by rw [q]; decide) (by rw [q]; decide) (by rw [q]; decide) (by rw [q]; decide) (by rw [q]; decide) (by rw [q]; decide) (by rw [q]; decide) (by rw [q]; decide) (by rw [q]; decide) (by rw [q]; decide) (by rw [q]; decide) (by rw [q]; decide) (by rw [q]; decide)) (fun b q => hkc_143 b (by rw [q]; decide) (by rw [q]; decide) (by rw [q]; decide) (by rw [q]; decide) (by rw [q]; decide) (by rw [q]; decide) (by rw [q]; decide) (by rw [q]; decide) (by rw [q]; decide) (by rw [q]; decide) (by rw [q]; decide) (by rw [q]; decide) (by rw [q]; decide)) (fun b q => congrArg (fun x => fldI x 1) (hkc_143 b (by rw [q]; decide) (by rw [q]; decide) (by rw [q]; decide) (by rw [q]; decide) (by rw [q]; decide) (by rw [q]; decide) (by rw [q]; decide) (by rw [q]; decide) (by rw [q]; decide) (by rw [q]; decide) (by rw [q]; decide) (by rw [q]; decide) (by rw [q]; decide)))
  have hT1 : trel kd 107 549 551 556 104 f_142 a_8 := hT1.keep (fun b q => hkc_143 b (by rw [q]; decide) (by rw [q]; decide) (by rw [q]; decide) (by rw [q]; decide) (by rw [q]; decide) (by rw [q]; decide) (by rw [q]; decide) (by rw [q]; decide) (by rw [q]; decide) (by rw [q]; decide) (by rw [q]; decide) (by rw [q]; decide) (by rw [q]; decide)) (fun b q => hkc_143 b (by rw [q]; decide) (by rw [q]; decide) (by rw [q]; decide) (by rw [q]; decide) (by rw [q]; decide) (by rw [q]; decide) (by rw [q]; decide) (by rw [q]; decide) (by rw [q]; decide) (by rw [q]; decide) (by rw [q]; decide) (by rw [q]; decide) (by rw [q]; decide)) (fun b q => hkc_143 b (by rw [q]; decide) (by rw [q]; decide) (by rw [q]; decide) (by rw [q]; decide) (by rw [q]; decide) (by rw [q]; decide) (by rw [q]; decide) (by rw [q]; decide) (by rw [q]; decide) (by rw [q]; decide) (by rw [q]; decide) (by rw [q]; decide) (by rw [q]; decide)) (fun b q => hkc_143 b (by rw [q]; decide) (by rw [q]; decide) (by rw [q]; decide) (by rw [q]; decide) (by rw [q]; decide) (by rw [q]; decide) (by rw [q]; decide) (by rw [q]; decide) (by rw [q]; decide) (by rw [q]; decide) (by rw [q]; decide) (by rw [q]; decide) (by rw [q]; decide)) (fun b q => congrArg (fun x => fldI x 1) (hkc_143 b (by rw [q]; decide) (by rw [q]; decide) (by rw [q]; decide) (by rw [q]; decide) (by rw [q]; decide) (by rw [q]; decide) (by rw [q]; decide) (by rw [q]; decide) (by rw [q]; decide) (by rw [q]; decide) (by rw [q]; decide) (by rw [q]; decide) (by rw [q]; decide)))
  have hT3 : urel kd 5 3 6 7 f_142 o1 := hT3.keep (fun b q => congrArg (fun x => fldR x 5) (hkc_143 b (by rw [q]; decide) (by rw [q]; decide) (by rw [q]; decide) (by rw [q]; decide) (by rw [q]; decide) (by rw [q]; decide) (by rw [q]; decide) (by rw [q]; decide) (by rw [q]; decide) (by rw [q]; decide) (by rw [q]; decide) (by rw [q]; decide) (by rw [q]; decide))) (fun b q => congrArg (fun x => fldR x 3) (hkc_143 b (by rw [q]; decide) (by rw [q]; decide) (by rw [q]; decide) (by rw [q]; decide) (by rw [q]; decide) (by rw [q]; decide) (by rw [q]; decide) (by rw [q]; decide) (by rw [q]; decide) (by rw [q]; decide) (by rw [q]; decide) (by rw [q]; decide) (by rw [q]; decide))) (fun b q => congrArg (fun x => fldI x 0) (hkc_143 b (by rw [q]; decide) (by rw [q]; decide) (by rw [q]; decide) (by rw [q]; decide) (by rw [q]; decide) (by rw [q]; decide) (by rw [q]; decide) (by rw [q]; decide) (by rw [q]; decide) (by rw [q]; decide) (by rw [q]; decide) (by rw [q]; decide) (by rw [q]; decide))) (fun b q => congrArg (fun x => fldI x 12) (hkc_143 b (by rw [q]; decide) (by rw [q]; decide) (by rw [q]; decide) (by rw [q]; decide) (by rw [q]; decide) (by rw [q]; decide) (by rw [q]; decide) (by rw [q]; decide) (by rw [q]; decide) (by rw [q]; decide) (by rw [q]; decide) (by rw [q]; decide) (by rw [q]; decide)))
  have hT4 : urel kd 7 6 106 107 f_142 o1 := hT4.keep (fun b q => congrArg (fun x => fldR x 7) (hkc_143 b (by rw [q]; decide) (by rw [q]; decide) (by rw [q]; decide) (by rw [q]; decide) (by rw [q]; decide) (by rw [q]; decide) (by rw [q]; decide) (by rw [q]; decide) (by rw [q]; decide) (by rw [q]; decide) (by rw [q]; decide) (by rw [q]; decide) (by rw [q]; decide))) (fun b q => congrArg (fun x => fldR x 6) (hkc_143 b (by rw [q]; decide) (by rw [q]; decide) (by rw [q]; decide) (by rw [q]; decide) (by rw [q]; decide) (by rw [q]; decide) (by rw [q]; decide) (by rw [q]; decide) (by rw [q]; decide) (by rw [q]; decide) (by rw [q]; decide) (by rw [q]; decide) (by rw [q]; decide))) (fun b q => congrArg (fun x => fldI x 0) (hkc_143 b (by rw [q]; decide) (by rw [q]; decide) (by rw [q]; decide) (by rw [q]; decide) (by rw [q]; decide) (by rw [q]; decide) (by rw [q]; decide) (by rw [q]; decide) (by rw [q]; decide) (by rw [q]; decide) (by rw [q]; decide) (by rw [q]; decide) (by rw [q]; decide))) (fun b q => congrArg (fun x => fldI x 12) (hkc_143 b (by rw [q]; decide) (by rw [q]; decide) (by rw [q]; decide) (by rw [q]; decide) (by rw [q]; decide) (by rw [q]; decide) (by rw [q]; decide) (by rw [q]; decide) (by rw [q]; decide) (by rw [q]; decide) (by rw [q]; decide) (by rw [q]; decide) (by rw [q]; decide)))
  have hT5 : alrel kd f_142 o1 := hT5.keep (fun b q => congrArg (fun x => fldR x 2) (hkc_143 b (by rw [q]; decide) (by rw [q]; decide) (by rw [q]; decide) (by rw [q]; decide) (by rw [q]; decide) (by rw [q]; decide) (by rw [q]; decide) (by rw [q]; decide) (by rw [q]; decide) (by rw [q]; decide) (by rw [q]; decide) (by rw [q]; decide) (by rw [q]; decide))) (fun b q => congrArg (fun x => fldR x 3) (hkc_143 b (by rw [q]; decide) (by rw [q]; decide) (by rw [q]; decide) (by rw [q]; decide) (by rw [q]; decide) (by rw [q]; decide) (by rw [q]; decide) (by rw [q]; decide) (by rw [q]; decide) (by rw [q]; decide) (by rw [q]; decide) (by rw [q]; decide) (by rw [q]; decide))) (fun b q => congrArg (fun x => fldR x 0) (hkc_143 b (by rw [q]; decide) (by rw [q]; decide) (by rw [q]; decide) (by rw [q]; decide) (by rw [q]; decide) (by rw [q]; decide) (by rw [q]; decide) (by rw [q]; decide) (by rw [q]; decide) (by rw [q]; decide) (by rw [q]; decide) (by rw [q]; decide) (by rw [q]; decide)))
  have hT_134 : drel kd 1 521 522 f_142 a_83 := hT_134.keep (fun b q => congrArg (fun x => fldI x 5) (hkc_143 b (by rw [q]; decide) (by rw [q]; decide) (by rw [q]; decide) (by rw [q]; decide) (by rw [q]; decide) (by rw [q]; decide) (by rw [q]; decide) (by rw [q]; decide) (by rw [q]; decide) (by rw [q]; decide) (by rw [q]; decide) (by rw [q]; decide) (by rw [q]; decide))) (fun b q => congrArg (fun x => fldR x 0) (hkc_143 b (by rw [q]; decide) (by rw [q]; decide) (by rw [q]; decide) (by rw [q]; decide) (by rw [q]; decide) (by rw [q]; decide) (by rw [q]; decide) (by rw [q]; decide) (by rw [q]; decide) (by rw [q]; decide) (by rw [q]; decide) (by rw [q]; decide) (by rw [q]; decide))) (fun b q => congrArg (fun x => fldR x 1) (hkc_143 b (by rw [q]; decide) (by rw [q]; decide) (by rw [q]; decide) (by rw [q]; decide) (by rw [q]; decide) (by rw [q]; decide) (by rw [q]; decide) (by rw [q]; decide) (by rw [q]; decide) (by rw [q]; decide) (by rw [q]; decide) (by rw [q]; decide) (by rw [q]; decide))) (fun b q => hkc_143 b (by rw [q]; decide) (by rw [q]; decide) (by rw [q]; decide) (by rw [q]; decide) (by rw [q]; decide) (by rw [q]; decide) (by rw [q]; decide) (by rw [q]; decide) (by rw [q]; decide) (by rw [q]; decide) (by rw [q]; decide) (by rw [q]; decide) (by rw [q]; decide)) (fun b q => hkc_143 b (by rw [q]; decide) (by rw [q]; decide) (by rw [q]; decide) (by rw [q]; decide) (by rw [q]; decide) (by rw [q]; decide) (by rw [q]; decide) (by rw [q]; decide) (by rw [q]; decide) (by rw [q]; decide) (by rw [q]; decide) (by rw [q]; decide) (by rw [q]; decide))
  obtain ⟨v_151, v_152, v_153, v_154, v_155, v_156, hfo_157, fa_158⟩ := op12_23_25_26_27_29_32 hfo_114 (hG _ mo2) ko2 (hra_144 o2 ko2) (hfa_145 o2 ko2)
  have bv_151 : (0 ≤ v_151.toInt ∧ v_151.toInt ≤ 12) := fa12_23 fa_158
  have bv_152 : (0 ≤ v_152.toInt ∧ v_152.toInt ≤ 4) := fa12_25 fa_158
  have bv_153 : ((-2147483648) ≤ v_153.toInt ∧ v_153.toInt ≤ 2147483647) := ⟨i32_lo _, i32_hi _⟩
  have bv_154 : (0 ≤ v_154.toInt ∧ v_154.toInt ≤ 1) := fa12_27 fa_158
  have bv_155 : (0 ≤ v_155.toInt ∧ v_155.toInt ≤ 201) := fa12_29 fa_158
  have bv_156 : (0 ≤ v_156.toInt ∧ v_156.toInt ≤ 6561) := fa12_32 fa_158
  have hqhpost_146 := hpost_146 v_50 v_155 (by rw [hfo_114]; rfl) (by rw [hfo_157]; rfl)
  refine lv_pop hx hb dL_law_571 rfl ?_
  refine lv_goto (tgt := 933) hx hb dL_law_572 (by decide) ?_
  exact kk f_142 _ _ hG hP hD hS ⟨(fun d9 h9 => by rw [hfo_149] at h9; obtain rfl := Option.some.inj h9; exact hT0), (fun d9 h9 => by rw [hfo_149] at h9; obtain rfl := Option.some.inj h9; exact hT1), (fun r9 d9 h8 h9 => by rw [hfo_149] at h8; obtain rfl := Option.some.inj h8; rw [hfo_150] at h9; obtain rfl := Option.some.inj h9; exact hT_134), hT3, hT4, hT5, hTc_147, (fun z9 h9 => by rw [hfo_157] at h9; obtain rfl := Option.some.inj h9; omega), (fun y9 z9 h8 h9 => by rw [hfo_149] at h8; obtain rfl := Option.some.inj h8; rw [hfo_157] at h9; obtain rfl := Option.some.inj h9; omega), (fun y9 z9 h8 h9 => by rw [hfo_149] at h8; obtain rfl := Option.some.inj h8; rw [hfo_157] at h9; obtain rfl := Option.some.inj h9; omega)⟩ ls (lv_sub hl [0, 1, 2, 3] rfl)
