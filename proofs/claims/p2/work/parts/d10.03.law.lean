set_option maxHeartbeats 8000000 in
set_option maxRecDepth 100000 in
theorem law_c10 {p : Program} {l : Launch} {e : Env} {s : State} {m : MethodId} {below : List Frame} {meth : Method} {c : Code} {dC : Nat → ClassId} {dI : Nat → Nat → Nat} {cI cL cZ cR cG cH : ClassId} {Z : zT} {kd : Nat → Nat} {L : List Nat} {b Ln : Nat} {xs : Nat → Int32} (hLn : Ln ≤ 384) (C0 : lw_At p s m meth c b Ln xs) (hK : va_K (dC, dI) vwCl (TY6 cI cL cZ cR cG cH) s) (hN : nsW s) (hZ : zW Z L s) (hLs : ∀ q ∈ L, s.heap.size ≤ q) {o1 o2 : Nat} (mo1 : o1 ∈ L) (ko1 : kd o1 = 11) (mo2 : o2 ∈ L) (ko2 : kd o2 = 12) {f : Nat → va_E} (hG : GI (okc cI cL cZ cR cG cH L kd) kd L f) {H : Heap} {locs : List Loc} (hP : va_P (dC, dI) vwCl (va_pl L f) H) (hD : va_D (fun q => q ∈ L) (va_pl L f)) (hS : va_S (fun q => q ∈ L) s.heap H locs) (hI : lawI kd f o1 o2) {i0 : Int32} (bi0 : 0 ≤ i0.toInt ∧ i0.toInt ≤ 378) (hi0 : i0.toInt + 6 ≤ (Ln : Int))
    (kk : ∀ (f1 : Nat → va_E) (H1 : Heap) (locs1 : List Loc), GI (okc cI cL cZ cR cG cH L kd) kd L f1 → va_P (dC, dI) vwCl (va_pl L f1) H1 → va_D (fun q => q ∈ L) (va_pl L f1) → va_S (fun q => q ∈ L) s.heap H1 locs1 → lawI kd f1 o1 o2 → ∀ (ls : Array Slot), lv_has ls 4 [(3, .int i0), (0, .ref b), (1, .ref o1), (2, .ref o2)] → W p l e room_1 s m #[Value.ref b] below meth c H1 locs1 559 115398 (lw_Z below #[Value.ref b] s) (F0 m 933 ls []))
    {ls : Array Slot} (hl : lv_has ls 4 [(3, .int i0), (0, .ref b), (1, .ref o1), (2, .ref o2)]) : W p l e room_1 s m #[Value.ref b] below meth c H locs 559 115398 (lw_Z below #[Value.ref b] s) (F0 m 404 ls []) := by
  obtain ⟨hx, hb, hr, hml, hown0, hts, hX, hbl, hlocks, hgv⟩ := C0
  have hown : s.vm.findClass RL = some m.cls := hown0
  have hU : ∀ w ∈ wsU, w.before #[Value.ref b] s = true := fun w h => hts w (wsU_in w h)
  have hbA : ¬ (fun q => q ∈ L) b := fun h => absurd (hLs b h) (Nat.not_le.mpr hbl)
  obtain ⟨hxtr0, hxtr1, hxtr2, hxtr3, hxtr4, hxtr5, hxtr6, hx29, hxtp, hxim⟩ := hI
  have hrr11_2 : ∀ b, kd b = 11 → fldR (f b) 2 = fldR (f b) 2 := fun _ _ => rfl
  have hrr11_3 : ∀ b, kd b = 11 → fldR (f b) 3 = fldR (f b) 3 := fun _ _ => rfl
  have hrr11_5 : ∀ b, kd b = 11 → fldR (f b) 5 = fldR (f b) 5 := fun _ _ => rfl
  have hrr11_6 : ∀ b, kd b = 11 → fldR (f b) 6 = fldR (f b) 6 := fun _ _ => rfl
  have hrr11_7 : ∀ b, kd b = 11 → fldR (f b) 7 = fldR (f b) 7 := fun _ _ => rfl
  have hrr11_9 : ∀ b, kd b = 11 → fldR (f b) 9 = fldR (f b) 9 := fun _ _ => rfl
  have hrr11_10 : ∀ b, kd b = 11 → fldR (f b) 10 = fldR (f b) 10 := fun _ _ => rfl
  have hrr11_16 : ∀ b, kd b = 11 → fldR (f b) 16 = fldR (f b) 16 := fun _ _ => rfl
  have hrr3_0 : ∀ b, kd b = 3 → fldR (f b) 0 = fldR (f b) 0 := fun _ _ => rfl
  have hrr3_3 : ∀ b, kd b = 3 → fldR (f b) 3 = fldR (f b) 3 := fun _ _ => rfl
  have hrA12 : ∀ b, kd b = 12 → ∀ j, fldR (f b) j = fldR (f b) j := fun _ _ _ => rfl
  obtain ⟨a_2, v_3, a_4, a_5, a_6, a_7, a_8, a_9, v_10, a_11, a_12, a_13, v_14, v_15, a_16, v_17, a_18, a_19, v_20, hfo_1, ⟨ma_2, ka_2⟩, bv_3, ⟨ma_4, ka_4⟩, ⟨ma_5, ka_5⟩, ⟨ma_6, ka_6⟩, ⟨ma_7, ka_7⟩, ⟨ma_8, ka_8⟩, ⟨ma_9, ka_9⟩, bv_10, ⟨ma_11, ka_11⟩, ⟨ma_12, ka_12⟩, ⟨ma_13, ka_13⟩, bv_14, ⟨ma_16, ka_16⟩, bv_17, ⟨ma_18, ka_18⟩, ⟨ma_19, ka_19⟩⟩ := un_11 (hG _ mo1) ko1
  have bv_15 : ((-2147483648) ≤ v_15.toInt ∧ v_15.toInt ≤ 2147483647) := ⟨i32_lo _, i32_hi _⟩
  have bv_20 : ((-2147483648) ≤ v_20.toInt ∧ v_20.toInt ≤ 2147483647) := ⟨i32_lo _, i32_hi _⟩
  obtain ⟨a_21, a_22, a_23, v_24, a_25, v_26, v_27, v_28, v_29, v_30, v_31, v_32, v_33, v_34, v_35, a_36, a_37, a_38, a_39, a_40, a_41, a_42, a_43, v_44, v_45, v_46, v_47, v_48, a_49, v_50, a_51, a_52, v_53, v_54, a_55, v_56, a_57, a_58, v_59, v_60, a_61, a_62, a_63, v_64, a_65, a_66, a_67, a_68, a_69, a_70, a_71, a_72, a_73, v_74, v_75, a_76, hfo_77, fa_78⟩ := un12 (hG _ mo2) ko2
  have bv_24 : (0 ≤ v_24.toInt ∧ v_24.toInt ≤ 1) := fa12_3 fa_78
  have bv_26 : (0 ≤ v_26.toInt ∧ v_26.toInt ≤ 600) := fa12_5 fa_78
  have bv_50 : (0 ≤ v_50.toInt ∧ v_50.toInt ≤ 201) := fa12_29 fa_78
  have hT0 := hxtr0 a_5 (by rw [hfo_1]; rfl)
  have hT1 := hxtr1 a_8 (by rw [hfo_1]; rfl)
  obtain ⟨a_80, a_81, a_82, a_83, a_84, v_85, v_86, v_87, v_88, v_89, v_90, v_91, a_92, a_93, a_94, v_95, a_96, a_97, hfo_79, ⟨ma_80, ka_80⟩, ⟨ma_81, ka_81⟩, ⟨ma_82, ka_82⟩, ⟨ma_83, ka_83⟩, ⟨ma_84, ka_84⟩, bv_85, bv_86, bv_87, ⟨ma_92, ka_92⟩, ⟨ma_93, ka_93⟩, ⟨ma_94, ka_94⟩, bv_95, ⟨ma_96, ka_96⟩, ⟨ma_97, ka_97⟩⟩ := un_3 (hG _ ma_4) ka_4
  have bv_88 : ((-2147483648) ≤ v_88.toInt ∧ v_88.toInt ≤ 2147483647) := ⟨i32_lo _, i32_hi _⟩
  have bv_89 : ((-2147483648) ≤ v_89.toInt ∧ v_89.toInt ≤ 2147483647) := ⟨i32_lo _, i32_hi _⟩
  have bv_90 : ((-2147483648) ≤ v_90.toInt ∧ v_90.toInt ≤ 2147483647) := ⟨i32_lo _, i32_hi _⟩
  have bv_91 : ((-2147483648) ≤ v_91.toInt ∧ v_91.toInt ≤ 2147483647) := ⟨i32_lo _, i32_hi _⟩
  have hT2 := hxtr2 a_4 a_83 (by rw [hfo_1]; rfl) (by rw [hfo_79]; rfl)
  have hT3 := hxtr3
  have hT4 := hxtr4
  have hT5 := hxtr5
  have hT6 := hxtr6
  have h29 := hx29 v_50 (by rw [hfo_77]; rfl)
  have htp := hxtp v_3 v_26 (by rw [hfo_1]; rfl) (by rw [hfo_77]; rfl)
  have him := hxim v_10 v_24 (by rw [hfo_1]; rfl) (by rw [hfo_77]; rfl)
  refine lv_aload_n hx hb dL_law_404 rfl (lv_at hl 2 rfl) ?_
  refine lv_aload_n hx hb dL_law_405 rfl (lv_at hl 1 rfl) ?_
  refine lv_iload_n hx hb dL_law_406 rfl (lv_at hl 0 rfl) ?_
  refine lv_iconst (v := 1) hx hb dL_law_407 (by decide) ?_
  refine lv_iadd hx hb dL_law_408 ?_
  refine lv_topi (fun x_98 ex_98 => ?_)
  have hx_98 : x_98.toInt = i0.toInt + 1 := by rw [ex_98, ad_I (by rw [ti_1]; omega) (by rw [ti_1]; omega), ti_1]
  have bx_98 : (1 ≤ x_98.toInt ∧ x_98.toInt ≤ 379) := by constructor <;> omega
  refine va_sld hx hb hX hbl hbA hS (vp_in_iff.mpr (by constructor <;> omega)) dL_law_409 ?_
  refine lv_topi (fun x_99 ex_99 => ?_)
  have bx_99 : ((-2147483648) ≤ x_99.toInt ∧ x_99.toInt ≤ 2147483647) := ⟨i32_lo _, i32_hi _⟩
  refine lv_aload_n hx hb dL_law_410 rfl (lv_at hl 1 rfl) ?_
  refine lv_iload_n hx hb dL_law_411 rfl (lv_at hl 0 rfl) ?_
  refine lv_iconst (v := 2) hx hb dL_law_412 (by decide) ?_
  refine lv_iadd hx hb dL_law_413 ?_
  refine lv_topi (fun x_100 ex_100 => ?_)
  have hx_100 : x_100.toInt = i0.toInt + 2 := by rw [ex_100, ad_I (by rw [ti_2]; omega) (by rw [ti_2]; omega), ti_2]
  have bx_100 : (2 ≤ x_100.toInt ∧ x_100.toInt ≤ 380) := by constructor <;> omega
  refine va_sld hx hb hX hbl hbA hS (vp_in_iff.mpr (by constructor <;> omega)) dL_law_414 ?_
  refine lv_topi (fun x_101 ex_101 => ?_)
  have bx_101 : ((-2147483648) ≤ x_101.toInt ∧ x_101.toInt ≤ 2147483647) := ⟨i32_lo _, i32_hi _⟩
  refine tk_ViP (As := [.int x_99, .int x_101]) (rest := []) (n := 2) hx hb hml hown hU hN hZ (s_X11_meant_k11 l (dC, dI) cI cL cZ cR cG cH Z kd L f hG o1 mo1 ko1 x_99 x_101) wd_1058 wd_1059 wd_1060 wd_2 wd_1061 (by decide +kernel) ⟨Nat.le_of_ble_eq_true rfl, Nat.le_of_ble_eq_true rfl⟩ hK hP hD hS mo1 hfo_1 11 rfl rfl rfl hl.1 rfl (Nat.le_of_ble_eq_true rfl) dL_law_415 ⟨Nat.le_of_ble_eq_true rfl, Nat.le_of_ble_eq_true rfl⟩ (fun x_102 f_103 H locs hw hP hD hS => ?_)
  obtain ⟨rfl, bx_102⟩ := hw
  refine lv_pop hx hb dL_law_418 rfl ?_
  refine lv_aload_n hx hb dL_law_419 rfl (lv_at hl 3 rfl) ?_
  refine lv_aload_n hx hb dL_law_420 rfl (lv_at hl 1 rfl) ?_
  refine lv_iload_n hx hb dL_law_421 rfl (lv_at hl 0 rfl) ?_
  refine lv_iconst (v := 1) hx hb dL_law_422 (by decide) ?_
  refine lv_iadd hx hb dL_law_423 ?_
  refine lv_topi (fun x_105 ex_105 => ?_)
  have hx_105 : x_105.toInt = i0.toInt + 1 := by rw [ex_105, ad_I (by rw [ti_1]; omega) (by rw [ti_1]; omega), ti_1]
  have bx_105 : (1 ≤ x_105.toInt ∧ x_105.toInt ≤ 379) := by constructor <;> omega
  refine va_sld hx hb hX hbl hbA hS (vp_in_iff.mpr (by constructor <;> omega)) dL_law_424 ?_
  refine lv_topi (fun x_106 ex_106 => ?_)
  have bx_106 : ((-2147483648) ≤ x_106.toInt ∧ x_106.toInt ≤ 2147483647) := ⟨i32_lo _, i32_hi _⟩
  have hsmx_106 : x_106.toInt = x_99.toInt := by rw [ex_106, ex_105, ex_99, ex_98]
  refine lv_aload_n hx hb dL_law_425 rfl (lv_at hl 1 rfl) ?_
  refine lv_iload_n hx hb dL_law_426 rfl (lv_at hl 0 rfl) ?_
  refine lv_iconst (v := 2) hx hb dL_law_427 (by decide) ?_
  refine lv_iadd hx hb dL_law_428 ?_
  refine lv_topi (fun x_107 ex_107 => ?_)
  have hx_107 : x_107.toInt = i0.toInt + 2 := by rw [ex_107, ad_I (by rw [ti_2]; omega) (by rw [ti_2]; omega), ti_2]
  have bx_107 : (2 ≤ x_107.toInt ∧ x_107.toInt ≤ 380) := by constructor <;> omega
  refine va_sld hx hb hX hbl hbA hS (vp_in_iff.mpr (by constructor <;> omega)) dL_law_429 ?_
  refine lv_topi (fun x_108 ex_108 => ?_)
  have bx_108 : ((-2147483648) ≤ x_108.toInt ∧ x_108.toInt ≤ 2147483647) := ⟨i32_lo _, i32_hi _⟩
  have hsmx_108 : x_108.toInt = x_101.toInt := by rw [ex_108, ex_107, ex_101, ex_100]
  refine tk_ViP (As := [.int x_106, .int x_108]) (rest := []) (n := 2) hx hb hml hown hU hN hZ (s_X12_meant_k12 l (dC, dI) cI cL cZ cR cG cH Z kd L f hG o2 mo2 ko2 x_106 x_108) wd_1062 wd_1063 wd_1064 wd_5 wd_1065 (by decide +kernel) ⟨Nat.le_of_ble_eq_true rfl, Nat.le_of_ble_eq_true rfl⟩ hK hP hD hS mo2 hfo_77 12 rfl rfl rfl hl.1 rfl (Nat.le_of_ble_eq_true rfl) dL_law_430 ⟨Nat.le_of_ble_eq_true rfl, Nat.le_of_ble_eq_true rfl⟩ (fun x_109 f_110 H locs hw hP hD hS => ?_)
  obtain ⟨rfl, bx_109⟩ := hw
  refine lv_pop hx hb dL_law_433 rfl ?_
  refine lv_goto (tgt := 933) hx hb dL_law_434 (by decide) ?_
  exact kk f _ _ hG hP hD hS ⟨(fun d9 h9 => by rw [hfo_1] at h9; obtain rfl := Option.some.inj h9; exact hT0), (fun d9 h9 => by rw [hfo_1] at h9; obtain rfl := Option.some.inj h9; exact hT1), (fun r9 d9 h8 h9 => by rw [hfo_1] at h8; obtain rfl := Option.some.inj h8; rw [hfo_79] at h9; obtain rfl := Option.some.inj h9; exact hT2), hT3, hT4, hT5, hT6, (fun z9 h9 => by rw [hfo_77] at h9; obtain rfl := Option.some.inj h9; omega), (fun y9 z9 h8 h9 => by rw [hfo_1] at h8; obtain rfl := Option.some.inj h8; rw [hfo_77] at h9; obtain rfl := Option.some.inj h9; omega), (fun y9 z9 h8 h9 => by rw [hfo_1] at h8; obtain rfl := Option.some.inj h8; rw [hfo_77] at h9; obtain rfl := Option.some.inj h9; omega)⟩ ls (lv_sub hl [0, 1, 2, 3] rfl)
set_option maxHeartbeats 8000000 in
set_option maxRecDepth 100000 in
theorem law_c11 {p : Program} {l : Launch} {e : Env} {s : State} {m : MethodId} {below : List Frame} {meth : Method} {c : Code} {dC : Nat → ClassId} {dI : Nat → Nat → Nat} {cI cL cZ cR cG cH : ClassId} {Z : zT} {kd : Nat → Nat} {L : List Nat} {b Ln : Nat} {xs : Nat → Int32} (hLn : Ln ≤ 384) (C0 : lw_At p s m meth c b Ln xs) (hK : va_K (dC, dI) vwCl (TY6 cI cL cZ cR cG cH) s) (hN : nsW s) (hZ : zW Z L s) (hLs : ∀ q ∈ L, s.heap.size ≤ q) {o1 o2 : Nat} (mo1 : o1 ∈ L) (ko1 : kd o1 = 11) (mo2 : o2 ∈ L) (ko2 : kd o2 = 12) {f : Nat → va_E} (hG : GI (okc cI cL cZ cR cG cH L kd) kd L f) {H : Heap} {locs : List Loc} (hP : va_P (dC, dI) vwCl (va_pl L f) H) (hD : va_D (fun q => q ∈ L) (va_pl L f)) (hS : va_S (fun q => q ∈ L) s.heap H locs) (hI : lawI kd f o1 o2) {i0 : Int32} (bi0 : 0 ≤ i0.toInt ∧ i0.toInt ≤ 378) (hi0 : i0.toInt + 6 ≤ (Ln : Int))
    (kk : ∀ (f1 : Nat → va_E) (H1 : Heap) (locs1 : List Loc), GI (okc cI cL cZ cR cG cH L kd) kd L f1 → va_P (dC, dI) vwCl (va_pl L f1) H1 → va_D (fun q => q ∈ L) (va_pl L f1) → va_S (fun q => q ∈ L) s.heap H1 locs1 → lawI kd f1 o1 o2 → ∀ (ls : Array Slot), lv_has ls 4 [(3, .int i0), (0, .ref b), (1, .ref o1), (2, .ref o2)] → W p l e room_1 s m #[Value.ref b] below meth c H1 locs1 559 115398 (lw_Z below #[Value.ref b] s) (F0 m 933 ls []))
    {ls : Array Slot} (hl : lv_has ls 4 [(3, .int i0), (0, .ref b), (1, .ref o1), (2, .ref o2)]) : W p l e room_1 s m #[Value.ref b] below meth c H locs 559 115398 (lw_Z below #[Value.ref b] s) (F0 m 437 ls []) := by
  obtain ⟨hx, hb, hr, hml, hown0, hts, hX, hbl, hlocks, hgv⟩ := C0
  have hown : s.vm.findClass RL = some m.cls := hown0
  have hU : ∀ w ∈ wsU, w.before #[Value.ref b] s = true := fun w h => hts w (wsU_in w h)
  have hbA : ¬ (fun q => q ∈ L) b := fun h => absurd (hLs b h) (Nat.not_le.mpr hbl)
  obtain ⟨hxtr0, hxtr1, hxtr2, hxtr3, hxtr4, hxtr5, hxtr6, hx29, hxtp, hxim⟩ := hI
  have hrr11_2 : ∀ b, kd b = 11 → fldR (f b) 2 = fldR (f b) 2 := fun _ _ => rfl
  have hrr11_3 : ∀ b, kd b = 11 → fldR (f b) 3 = fldR (f b) 3 := fun _ _ => rfl
  have hrr11_5 : ∀ b, kd b = 11 → fldR (f b) 5 = fldR (f b) 5 := fun _ _ => rfl
  have hrr11_6 : ∀ b, kd b = 11 → fldR (f b) 6 = fldR (f b) 6 := fun _ _ => rfl
  have hrr11_7 : ∀ b, kd b = 11 → fldR (f b) 7 = fldR (f b) 7 := fun _ _ => rfl
  have hrr11_9 : ∀ b, kd b = 11 → fldR (f b) 9 = fldR (f b) 9 := fun _ _ => rfl
  have hrr11_10 : ∀ b, kd b = 11 → fldR (f b) 10 = fldR (f b) 10 := fun _ _ => rfl
  have hrr11_16 : ∀ b, kd b = 11 → fldR (f b) 16 = fldR (f b) 16 := fun _ _ => rfl
  have hrr3_0 : ∀ b, kd b = 3 → fldR (f b) 0 = fldR (f b) 0 := fun _ _ => rfl
  have hrr3_3 : ∀ b, kd b = 3 → fldR (f b) 3 = fldR (f b) 3 := fun _ _ => rfl
  have hrA12 : ∀ b, kd b = 12 → ∀ j, fldR (f b) j = fldR (f b) j := fun _ _ _ => rfl
  obtain ⟨a_2, v_3, a_4, a_5, a_6, a_7, a_8, a_9, v_10, a_11, a_12, a_13, v_14, v_15, a_16, v_17, a_18, a_19, v_20, hfo_1, ⟨ma_2, ka_2⟩, bv_3, ⟨ma_4, ka_4⟩, ⟨ma_5, ka_5⟩, ⟨ma_6, ka_6⟩, ⟨ma_7, ka_7⟩, ⟨ma_8, ka_8⟩, ⟨ma_9, ka_9⟩, bv_10, ⟨ma_11, ka_11⟩, ⟨ma_12, ka_12⟩, ⟨ma_13, ka_13⟩, bv_14, ⟨ma_16, ka_16⟩, bv_17, ⟨ma_18, ka_18⟩, ⟨ma_19, ka_19⟩⟩ := un_11 (hG _ mo1) ko1
  have bv_15 : ((-2147483648) ≤ v_15.toInt ∧ v_15.toInt ≤ 2147483647) := ⟨i32_lo _, i32_hi _⟩
  have bv_20 : ((-2147483648) ≤ v_20.toInt ∧ v_20.toInt ≤ 2147483647) := ⟨i32_lo _, i32_hi _⟩
  obtain ⟨a_21, a_22, a_23, v_24, a_25, v_26, v_27, v_28, v_29, v_30, v_31, v_32, v_33, v_34, v_35, a_36, a_37, a_38, a_39, a_40, a_41, a_42, a_43, v_44, v_45, v_46, v_47, v_48, a_49, v_50, a_51, a_52, v_53, v_54, a_55, v_56, a_57, a_58, v_59, v_60, a_61, a_62, a_63, v_64, a_65, a_66, a_67, a_68, a_69, a_70, a_71, a_72, a_73, v_74, v_75, a_76, hfo_77, fa_78⟩ := un12 (hG _ mo2) ko2
  have bv_24 : (0 ≤ v_24.toInt ∧ v_24.toInt ≤ 1) := fa12_3 fa_78
  have bv_26 : (0 ≤ v_26.toInt ∧ v_26.toInt ≤ 600) := fa12_5 fa_78
  have bv_50 : (0 ≤ v_50.toInt ∧ v_50.toInt ≤ 201) := fa12_29 fa_78
  have hT0 := hxtr0 a_5 (by rw [hfo_1]; rfl)
  have hT1 := hxtr1 a_8 (by rw [hfo_1]; rfl)
  obtain ⟨a_80, a_81, a_82, a_83, a_84, v_85, v_86, v_87, v_88, v_89, v_90, v_91, a_92, a_93, a_94, v_95, a_96, a_97, hfo_79, ⟨ma_80, ka_80⟩, ⟨ma_81, ka_81⟩, ⟨ma_82, ka_82⟩, ⟨ma_83, ka_83⟩, ⟨ma_84, ka_84⟩, bv_85, bv_86, bv_87, ⟨ma_92, ka_92⟩, ⟨ma_93, ka_93⟩, ⟨ma_94, ka_94⟩, bv_95, ⟨ma_96, ka_96⟩, ⟨ma_97, ka_97⟩⟩ := un_3 (hG _ ma_4) ka_4
  have bv_88 : ((-2147483648) ≤ v_88.toInt ∧ v_88.toInt ≤ 2147483647) := ⟨i32_lo _, i32_hi _⟩
  have bv_89 : ((-2147483648) ≤ v_89.toInt ∧ v_89.toInt ≤ 2147483647) := ⟨i32_lo _, i32_hi _⟩
  have bv_90 : ((-2147483648) ≤ v_90.toInt ∧ v_90.toInt ≤ 2147483647) := ⟨i32_lo _, i32_hi _⟩
  have bv_91 : ((-2147483648) ≤ v_91.toInt ∧ v_91.toInt ≤ 2147483647) := ⟨i32_lo _, i32_hi _⟩
  have hT2 := hxtr2 a_4 a_83 (by rw [hfo_1]; rfl) (by rw [hfo_79]; rfl)
  have hT3 := hxtr3
  have hT4 := hxtr4
  have hT5 := hxtr5
  have hT6 := hxtr6
  have h29 := hx29 v_50 (by rw [hfo_77]; rfl)
  have htp := hxtp v_3 v_26 (by rw [hfo_1]; rfl) (by rw [hfo_77]; rfl)
  have him := hxim v_10 v_24 (by rw [hfo_1]; rfl) (by rw [hfo_77]; rfl)
  refine lv_aload_n hx hb dL_law_437 rfl (lv_at hl 2 rfl) ?_
  refine tk_ViP (As := []) (rest := []) (n := 0) hx hb hml hown hU hN hZ (s_X11_walk_k11 l (dC, dI) cI cL cZ cR cG cH Z kd L f hG o1 mo1 ko1) wd_1066 wd_1067 wd_1068 wd_2 wd_1069 (by decide +kernel) ⟨Nat.le_of_ble_eq_true rfl, Nat.le_of_ble_eq_true rfl⟩ hK hP hD hS mo1 hfo_1 11 rfl rfl rfl hl.1 rfl (Nat.le_of_ble_eq_true rfl) dL_law_438 ⟨Nat.le_of_ble_eq_true rfl, Nat.le_of_ble_eq_true rfl⟩ (fun x_98 f_99 H locs hw hP hD hS => ?_)
  obtain ⟨hG, bx_98, hkc_100, hfc_101, hrc_102, hrc_103, hrc_104, hrc_105, hrc_106, hrc_107, hrc_108, hrc_109, hpost_110⟩ := hw
  have hfo_112 : f_99 o2 = .inr (12, [.ref a_21, .ref a_22, .ref a_23, .int v_24, .ref a_25, .int v_26, .int v_27, .int v_28, .int v_29, .int v_30, .int v_31, .int v_32, .int v_33, .int v_34, .int v_35, .ref a_36, .ref a_37, .ref a_38, .ref a_39, .ref a_40, .ref a_41, .ref a_42, .ref a_43, .int v_44, .int v_45, .int v_46, .int v_47, .int v_48, .ref a_49, .int v_50, .ref a_51, .ref a_52, .int v_53, .int v_54, .ref a_55, .int v_56, .ref a_57, .ref a_58, .int v_59, .int v_60, .ref a_61, .ref a_62, .ref a_63, .int v_64, .ref a_65, .ref a_66, .ref a_67, .ref a_68, .ref a_69, .ref a_70, .ref a_71, .ref a_72, .ref a_73, .int v_74, .int v_75, .ref a_76]) := by rw [hkc_100 o2 (by rw [ko2]; decide) (by rw [ko2]; decide)]; exact hfo_77
  have hfo_113 : f_99 a_4 = .inr (3, [.ref a_80, .ref a_81, .ref a_82, .ref a_83, .ref a_84, .int v_85, .int v_86, .int v_87, .int v_88, .int v_89, .int v_90, .int v_91, .ref a_92, .ref a_93, .ref a_94, .int v_95, .ref a_96, .ref a_97]) := by rw [hkc_100 a_4 (by rw [ka_4]; decide) (by rw [ka_4]; decide)]; exact hfo_79
  have hrr11_2 : ∀ b, kd b = 11 → fldR (f_99 b) 2 = fldR (f b) 2 := fun b kb => (hrc_102 b kb).trans (hrr11_2 b kb)
  have hrr11_3 : ∀ b, kd b = 11 → fldR (f_99 b) 3 = fldR (f b) 3 := fun b kb => (hrc_103 b kb).trans (hrr11_3 b kb)
  have hrr11_5 : ∀ b, kd b = 11 → fldR (f_99 b) 5 = fldR (f b) 5 := fun b kb => (hrc_104 b kb).trans (hrr11_5 b kb)
  have hrr11_6 : ∀ b, kd b = 11 → fldR (f_99 b) 6 = fldR (f b) 6 := fun b kb => (hrc_105 b kb).trans (hrr11_6 b kb)
  have hrr11_7 : ∀ b, kd b = 11 → fldR (f_99 b) 7 = fldR (f b) 7 := fun b kb => (hrc_106 b kb).trans (hrr11_7 b kb)
  have hrr11_9 : ∀ b, kd b = 11 → fldR (f_99 b) 9 = fldR (f b) 9 := fun b kb => (hrc_107 b kb).trans (hrr11_9 b kb)
  have hrr11_10 : ∀ b, kd b = 11 → fldR (f_99 b) 10 = fldR (f b) 10 := fun b kb => (hrc_108 b kb).trans (hrr11_10 b kb)
  have hrr11_16 : ∀ b, kd b = 11 → fldR (f_99 b) 16 = fldR (f b) 16 := fun b kb => (hrc_109 b kb).trans (hrr11_16 b kb)
  have hrr3_0 : ∀ b, kd b = 3 → fldR (f_99 b) 0 = fldR (f b) 0 := fun b kb => (congrArg (fun x => fldR x 0) (hkc_100 b (by rw [kb]; decide) (by rw [kb]; decide))).trans (hrr3_0 b kb)
  have hrr3_3 : ∀ b, kd b = 3 → fldR (f_99 b) 3 = fldR (f b) 3 := fun b kb => (congrArg (fun x => fldR x 3) (hkc_100 b (by rw [kb]; decide) (by rw [kb]; decide))).trans (hrr3_3 b kb)
  have hrA12 : ∀ b, kd b = 12 → ∀ j, fldR (f_99 b) j = fldR (f b) j := fun b kb j => (congrArg (fun x => fldR x j) (hkc_100 b (by rw [kb]; decide) (by rw [kb]; decide))).trans (hrA12 b kb j)
  have hT0 : trel kd 7 508 510 515 4 f_99 a_5 := hT0.keep (fun b q => hkc_100 b (by rw [q]; decide) (by rw [q]; decide)) (fun b q => hkc_100 b (by rw [q]; decide) (by rw [q]; decide)) (fun b q => hkc_100 b (by rw [q]; decide) (by rw [q]; decide)) (fun b q => hkc_100 b (by rw [q]; decide) (by rw [q]; decide)) (fun b q => congrArg (fun x => fldI x 1) (hkc_100 b (by rw [q]; decide) (by rw [q]; decide)))
  have hT1 : trel kd 107 549 551 556 104 f_99 a_8 := hT1.keep (fun b q => hkc_100 b (by rw [q]; decide) (by rw [q]; decide)) (fun b q => hkc_100 b (by rw [q]; decide) (by rw [q]; decide)) (fun b q => hkc_100 b (by rw [q]; decide) (by rw [q]; decide)) (fun b q => hkc_100 b (by rw [q]; decide) (by rw [q]; decide)) (fun b q => congrArg (fun x => fldI x 1) (hkc_100 b (by rw [q]; decide) (by rw [q]; decide)))
  have hT2 : drel kd 1 521 522 f_99 a_83 := hT2.keep (fun b q => congrArg (fun x => fldI x 5) (hkc_100 b (by rw [q]; decide) (by rw [q]; decide))) (fun b q => congrArg (fun x => fldR x 0) (hkc_100 b (by rw [q]; decide) (by rw [q]; decide))) (fun b q => congrArg (fun x => fldR x 1) (hkc_100 b (by rw [q]; decide) (by rw [q]; decide))) (fun b q => hkc_100 b (by rw [q]; decide) (by rw [q]; decide)) (fun b q => hkc_100 b (by rw [q]; decide) (by rw [q]; decide))
  have hT3 : urel kd 5 3 6 7 f_99 o1 := hT3.keep (fun b q => hrc_104 b q) (fun b q => hrc_103 b q) (fun b q => congrArg (fun x => fldI x 0) (hkc_100 b (by rw [q]; decide) (by rw [q]; decide))) (fun b q => congrArg (fun x => fldI x 12) (hkc_100 b (by rw [q]; decide) (by rw [q]; decide)))
  have hT4 : urel kd 7 6 106 107 f_99 o1 := hT4.keep (fun b q => hrc_106 b q) (fun b q => hrc_105 b q) (fun b q => congrArg (fun x => fldI x 0) (hkc_100 b (by rw [q]; decide) (by rw [q]; decide))) (fun b q => congrArg (fun x => fldI x 12) (hkc_100 b (by rw [q]; decide) (by rw [q]; decide)))
  have hT5 : alrel kd f_99 o1 := hT5.keep (fun b q => hrc_102 b q) (fun b q => hrc_103 b q) (fun b q => congrArg (fun x => fldR x 0) (hkc_100 b (by rw [q]; decide) (by rw [q]; decide)))
  have hT6 : srel kd 592 f_99 o2 := hT6.keep (fun b q => congrArg (fun x => fldR x 30) (hkc_100 b (by rw [q]; decide) (by rw [q]; decide))) (fun b q => congrArg (fun x => fldI x 32) (hkc_100 b (by rw [q]; decide) (by rw [q]; decide))) (fun b q => congrArg (fun x => fldI x 33) (hkc_100 b (by rw [q]; decide) (by rw [q]; decide))) (fun b q => hkc_100 b (by rw [q]; decide) (by rw [q]; decide))
  obtain ⟨a_115, v_116, a_117, a_118, a_119, a_120, a_121, a_122, v_123, a_124, a_125, a_126, v_127, v_128, a_129, v_130, a_131, a_132, v_133, hfo_114, ⟨ma_115, ka_115⟩, bv_116, ⟨ma_117, ka_117⟩, ⟨ma_118, ka_118⟩, ⟨ma_119, ka_119⟩, ⟨ma_120, ka_120⟩, ⟨ma_121, ka_121⟩, ⟨ma_122, ka_122⟩, bv_123, ⟨ma_124, ka_124⟩, ⟨ma_125, ka_125⟩, ⟨ma_126, ka_126⟩, bv_127, ⟨ma_129, ka_129⟩, bv_130, ⟨ma_131, ka_131⟩, ⟨ma_132, ka_132⟩⟩ := un_11 (hG _ mo1) ko1
  have bv_128 : ((-2147483648) ≤ v_128.toInt ∧ v_128.toInt ≤ 2147483647) := ⟨i32_lo _, i32_hi _⟩
  have bv_133 : ((-2147483648) ≤ v_133.toInt ∧ v_133.toInt ≤ 2147483647) := ⟨i32_lo _, i32_hi _⟩
  obtain rfl : a_4 = a_117 := by have hk9 := hrr11_2 o1 ko1; rw [hfo_114, hfo_1] at hk9; exact (Option.some.inj hk9).symm
  obtain rfl : a_5 = a_118 := by have hk9 := hrr11_3 o1 ko1; rw [hfo_114, hfo_1] at hk9; exact (Option.some.inj hk9).symm
  obtain rfl : a_7 = a_120 := by have hk9 := hrr11_5 o1 ko1; rw [hfo_114, hfo_1] at hk9; exact (Option.some.inj hk9).symm
  obtain rfl : a_8 = a_121 := by have hk9 := hrr11_6 o1 ko1; rw [hfo_114, hfo_1] at hk9; exact (Option.some.inj hk9).symm
  obtain rfl : a_9 = a_122 := by have hk9 := hrr11_7 o1 ko1; rw [hfo_114, hfo_1] at hk9; exact (Option.some.inj hk9).symm
  obtain rfl : a_11 = a_124 := by have hk9 := hrr11_9 o1 ko1; rw [hfo_114, hfo_1] at hk9; exact (Option.some.inj hk9).symm
  obtain rfl : a_12 = a_125 := by have hk9 := hrr11_10 o1 ko1; rw [hfo_114, hfo_1] at hk9; exact (Option.some.inj hk9).symm
  obtain rfl : a_18 = a_131 := by have hk9 := hrr11_16 o1 ko1; rw [hfo_114, hfo_1] at hk9; exact (Option.some.inj hk9).symm
  obtain rfl : v_10 = v_123 := by have hk9 := hfc_101 o1 ko1; rw [hfo_114, hfo_1] at hk9; exact (Option.some.inj hk9).symm
  have hqhpost_110 := hpost_110 v_3 v_116 (by rw [hfo_1]; rfl) (by rw [hfo_114]; rfl)
  refine lv_pop hx hb dL_law_441 rfl ?_
  refine lv_aload_n hx hb dL_law_442 rfl (lv_at hl 3 rfl) ?_
  refine tk_ViP (As := []) (rest := []) (n := 0) hx hb hml hown hU hN hZ (s_X12_walk_k12 l (dC, dI) cI cL cZ cR cG cH Z kd L f_99 hG o2 mo2 ko2) wd_1081 wd_1082 wd_1083 wd_5 wd_1084 (by decide +kernel) ⟨Nat.le_of_ble_eq_true rfl, Nat.le_of_ble_eq_true rfl⟩ hK hP hD hS mo2 hfo_112 12 rfl rfl rfl hl.1 rfl (Nat.le_of_ble_eq_true rfl) dL_law_443 ⟨Nat.le_of_ble_eq_true rfl, Nat.le_of_ble_eq_true rfl⟩ (fun x_134 f_135 H locs hw hP hD hS => ?_)
  obtain ⟨hG, bx_134, hkc_136, hra_137, hfa_138, hpost_139⟩ := hw
  have hfo_141 : f_135 a_4 = .inr (3, [.ref a_80, .ref a_81, .ref a_82, .ref a_83, .ref a_84, .int v_85, .int v_86, .int v_87, .int v_88, .int v_89, .int v_90, .int v_91, .ref a_92, .ref a_93, .ref a_94, .int v_95, .ref a_96, .ref a_97]) := by rw [hkc_136 a_4 (by rw [ka_4]; decide) (by rw [ka_4]; decide)]; exact hfo_113
  have hfo_142 : f_135 o1 = .inr (11, [.ref a_115, .int v_116, .ref a_4, .ref a_5, .ref a_119, .ref a_7, .ref a_8, .ref a_9, .int v_10, .ref a_11, .ref a_12, .ref a_126, .int v_127, .int v_128, .ref a_129, .int v_130, .ref a_18, .ref a_132, .int v_133]) := by rw [hkc_136 o1 (by rw [ko1]; decide) (by rw [ko1]; decide)]; exact hfo_114
  have hrr11_2 : ∀ b, kd b = 11 → fldR (f_135 b) 2 = fldR (f b) 2 := fun b kb => (congrArg (fun x => fldR x 2) (hkc_136 b (by rw [kb]; decide) (by rw [kb]; decide))).trans (hrr11_2 b kb)
  have hrr11_3 : ∀ b, kd b = 11 → fldR (f_135 b) 3 = fldR (f b) 3 := fun b kb => (congrArg (fun x => fldR x 3) (hkc_136 b (by rw [kb]; decide) (by rw [kb]; decide))).trans (hrr11_3 b kb)
  have hrr11_5 : ∀ b, kd b = 11 → fldR (f_135 b) 5 = fldR (f b) 5 := fun b kb => (congrArg (fun x => fldR x 5) (hkc_136 b (by rw [kb]; decide) (by rw [kb]; decide))).trans (hrr11_5 b kb)
  have hrr11_6 : ∀ b, kd b = 11 → fldR (f_135 b) 6 = fldR (f b) 6 := fun b kb => (congrArg (fun x => fldR x 6) (hkc_136 b (by rw [kb]; decide) (by rw [kb]; decide))).trans (hrr11_6 b kb)
  have hrr11_7 : ∀ b, kd b = 11 → fldR (f_135 b) 7 = fldR (f b) 7 := fun b kb => (congrArg (fun x => fldR x 7) (hkc_136 b (by rw [kb]; decide) (by rw [kb]; decide))).trans (hrr11_7 b kb)
  have hrr11_9 : ∀ b, kd b = 11 → fldR (f_135 b) 9 = fldR (f b) 9 := fun b kb => (congrArg (fun x => fldR x 9) (hkc_136 b (by rw [kb]; decide) (by rw [kb]; decide))).trans (hrr11_9 b kb)
  have hrr11_10 : ∀ b, kd b = 11 → fldR (f_135 b) 10 = fldR (f b) 10 := fun b kb => (congrArg (fun x => fldR x 10) (hkc_136 b (by rw [kb]; decide) (by rw [kb]; decide))).trans (hrr11_10 b kb)
  have hrr11_16 : ∀ b, kd b = 11 → fldR (f_135 b) 16 = fldR (f b) 16 := fun b kb => (congrArg (fun x => fldR x 16) (hkc_136 b (by rw [kb]; decide) (by rw [kb]; decide))).trans (hrr11_16 b kb)
  have hrr3_0 : ∀ b, kd b = 3 → fldR (f_135 b) 0 = fldR (f b) 0 := fun b kb => (congrArg (fun x => fldR x 0) (hkc_136 b (by rw [kb]; decide) (by rw [kb]; decide))).trans (hrr3_0 b kb)
  have hrr3_3 : ∀ b, kd b = 3 → fldR (f_135 b) 3 = fldR (f b) 3 := fun b kb => (congrArg (fun x => fldR x 3) (hkc_136 b (by rw [kb]; decide) (by rw [kb]; decide))).trans (hrr3_3 b kb)
  have hrA12 : ∀ b, kd b = 12 → ∀ j, fldR (f_135 b) j = fldR (f b) j := fun b kb j => (hra_137 b kb j).trans (hrA12 b kb j)
  have hT0 : trel kd 7 508 510 515 4 f_135 a_5 := hT0.keep (fun b q => hkc_136 b (by rw [q]; decide) (by rw [q]; decide)) (fun b q => hkc_136 b (by rw [q]; decide) (by rw [q]; decide)) (fun b q => hkc_136 b (by rw [q]; decide) (by rw [q]; decide)) (fun b q => hkc_136 b (by rw [q]; decide) (by rw [q]; decide)) (fun b q => congrArg (fun x => fldI x 1) (hkc_136 b (by rw [q]; decide) (by rw [q]; decide)))
  have hT1 : trel kd 107 549 551 556 104 f_135 a_8 := hT1.keep (fun b q => hkc_136 b (by rw [q]; decide) (by rw [q]; decide)) (fun b q => hkc_136 b (by rw [q]; decide) (by rw [q]; decide)) (fun b q => hkc_136 b (by rw [q]; decide) (by rw [q]; decide)) (fun b q => hkc_136 b (by rw [q]; decide) (by rw [q]; decide)) (fun b q => congrArg (fun x => fldI x 1) (hkc_136 b (by rw [q]; decide) (by rw [q]; decide)))
  have hT2 : drel kd 1 521 522 f_135 a_83 := hT2.keep (fun b q => congrArg (fun x => fldI x 5) (hkc_136 b (by rw [q]; decide) (by rw [q]; decide))) (fun b q => congrArg (fun x => fldR x 0) (hkc_136 b (by rw [q]; decide) (by rw [q]; decide))) (fun b q => congrArg (fun x => fldR x 1) (hkc_136 b (by rw [q]; decide) (by rw [q]; decide))) (fun b q => hkc_136 b (by rw [q]; decide) (by rw [q]; decide)) (fun b q => hkc_136 b (by rw [q]; decide) (by rw [q]; decide))
  have hT3 : urel kd 5 3 6 7 f_135 o1 := hT3.keep (fun b q => congrArg (fun x => fldR x 5) (hkc_136 b (by rw [q]; decide) (by rw [q]; decide))) (fun b q => congrArg (fun x => fldR x 3) (hkc_136 b (by rw [q]; decide) (by rw [q]; decide))) (fun b q => congrArg (fun x => fldI x 0) (hkc_136 b (by rw [q]; decide) (by rw [q]; decide))) (fun b q => congrArg (fun x => fldI x 12) (hkc_136 b (by rw [q]; decide) (by rw [q]; decide)))
  have hT4 : urel kd 7 6 106 107 f_135 o1 := hT4.keep (fun b q => congrArg (fun x => fldR x 7) (hkc_136 b (by rw [q]; decide) (by rw [q]; decide))) (fun b q => congrArg (fun x => fldR x 6) (hkc_136 b (by rw [q]; decide) (by rw [q]; decide))) (fun b q => congrArg (fun x => fldI x 0) (hkc_136 b (by rw [q]; decide) (by rw [q]; decide))) (fun b q => congrArg (fun x => fldI x 12) (hkc_136 b (by rw [q]; decide) (by rw [q]; decide)))
  have hT5 : alrel kd f_135 o1 := hT5.keep (fun b q => congrArg (fun x => fldR x 2) (hkc_136 b (by rw [q]; decide) (by rw [q]; decide))) (fun b q => congrArg (fun x => fldR x 3) (hkc_136 b (by rw [q]; decide) (by rw [q]; decide))) (fun b q => congrArg (fun x => fldR x 0) (hkc_136 b (by rw [q]; decide) (by rw [q]; decide)))
  have hT6 : srel kd 592 f_135 o2 := hT6.keep (fun b q => hra_137 b q 30) (fun b q => hfa_138 b q 32 (by decide) (by decide)) (fun b q => hfa_138 b q 33 (by decide) (by decide)) (fun b q => hkc_136 b (by rw [q]; decide) (by rw [q]; decide))
  obtain ⟨v_143, v_144, hfo_145, fa_146⟩ := op12_5_39 hfo_112 (hG _ mo2) ko2 (hra_137 o2 ko2) (hfa_138 o2 ko2)
  have bv_143 : (0 ≤ v_143.toInt ∧ v_143.toInt ≤ 600) := fa12_5 fa_146
  have bv_144 : ((-2147483648) ≤ v_144.toInt ∧ v_144.toInt ≤ 2147483647) := ⟨i32_lo _, i32_hi _⟩
  have hqhpost_139 := hpost_139 v_26 v_143 (by rw [hfo_112]; rfl) (by rw [hfo_145]; rfl)
  refine lv_pop hx hb dL_law_446 rfl ?_
  refine lv_goto (tgt := 933) hx hb dL_law_447 (by decide) ?_
  exact kk f_135 _ _ hG hP hD hS ⟨(fun d9 h9 => by rw [hfo_142] at h9; obtain rfl := Option.some.inj h9; exact hT0), (fun d9 h9 => by rw [hfo_142] at h9; obtain rfl := Option.some.inj h9; exact hT1), (fun r9 d9 h8 h9 => by rw [hfo_142] at h8; obtain rfl := Option.some.inj h8; rw [hfo_141] at h9; obtain rfl := Option.some.inj h9; exact hT2), hT3, hT4, hT5, hT6, (fun z9 h9 => by rw [hfo_145] at h9; obtain rfl := Option.some.inj h9; omega), (fun y9 z9 h8 h9 => by rw [hfo_142] at h8; obtain rfl := Option.some.inj h8; rw [hfo_145] at h9; obtain rfl := Option.some.inj h9; omega), (fun y9 z9 h8 h9 => by rw [hfo_142] at h8; obtain rfl := Option.some.inj h8; rw [hfo_145] at h9; obtain rfl := Option.some.inj h9; omega)⟩ ls (lv_sub hl [0, 1, 2, 3] rfl)
set_option maxHeartbeats 8000000 in
set_option maxRecDepth 100000 in
theorem law_c12 {p : Program} {l : Launch} {e : Env} {s : State} {m : MethodId} {below : List Frame} {meth : Method} {c : Code} {dC : Nat → ClassId} {dI : Nat → Nat → Nat} {cI cL cZ cR cG cH : ClassId} {Z : zT} {kd : Nat → Nat} {L : List Nat} {b Ln : Nat} {xs : Nat → Int32} (hLn : Ln ≤ 384) (C0 : lw_At p s m meth c b Ln xs) (hK : va_K (dC, dI) vwCl (TY6 cI cL cZ cR cG cH) s) (hN : nsW s) (hZ : zW Z L s) (hLs : ∀ q ∈ L, s.heap.size ≤ q) {o1 o2 : Nat} (mo1 : o1 ∈ L) (ko1 : kd o1 = 11) (mo2 : o2 ∈ L) (ko2 : kd o2 = 12) {f : Nat → va_E} (hG : GI (okc cI cL cZ cR cG cH L kd) kd L f) {H : Heap} {locs : List Loc} (hP : va_P (dC, dI) vwCl (va_pl L f) H) (hD : va_D (fun q => q ∈ L) (va_pl L f)) (hS : va_S (fun q => q ∈ L) s.heap H locs) (hI : lawI kd f o1 o2) {i0 : Int32} (bi0 : 0 ≤ i0.toInt ∧ i0.toInt ≤ 378) (hi0 : i0.toInt + 6 ≤ (Ln : Int))
    (kk : ∀ (f1 : Nat → va_E) (H1 : Heap) (locs1 : List Loc), GI (okc cI cL cZ cR cG cH L kd) kd L f1 → va_P (dC, dI) vwCl (va_pl L f1) H1 → va_D (fun q => q ∈ L) (va_pl L f1) → va_S (fun q => q ∈ L) s.heap H1 locs1 → lawI kd f1 o1 o2 → ∀ (ls : Array Slot), lv_has ls 4 [(3, .int i0), (0, .ref b), (1, .ref o1), (2, .ref o2)] → W p l e room_1 s m #[Value.ref b] below meth c H1 locs1 559 115398 (lw_Z below #[Value.ref b] s) (F0 m 933 ls []))
    {ls : Array Slot} (hl : lv_has ls 4 [(3, .int i0), (0, .ref b), (1, .ref o1), (2, .ref o2)]) : W p l e room_1 s m #[Value.ref b] below meth c H locs 559 115398 (lw_Z below #[Value.ref b] s) (F0 m 450 ls []) := by
  obtain ⟨hx, hb, hr, hml, hown0, hts, hX, hbl, hlocks, hgv⟩ := C0
  have hown : s.vm.findClass RL = some m.cls := hown0
  have hU : ∀ w ∈ wsU, w.before #[Value.ref b] s = true := fun w h => hts w (wsU_in w h)
  have hbA : ¬ (fun q => q ∈ L) b := fun h => absurd (hLs b h) (Nat.not_le.mpr hbl)
  obtain ⟨hxtr0, hxtr1, hxtr2, hxtr3, hxtr4, hxtr5, hxtr6, hx29, hxtp, hxim⟩ := hI
  have hrr11_2 : ∀ b, kd b = 11 → fldR (f b) 2 = fldR (f b) 2 := fun _ _ => rfl
  have hrr11_3 : ∀ b, kd b = 11 → fldR (f b) 3 = fldR (f b) 3 := fun _ _ => rfl
  have hrr11_5 : ∀ b, kd b = 11 → fldR (f b) 5 = fldR (f b) 5 := fun _ _ => rfl
  have hrr11_6 : ∀ b, kd b = 11 → fldR (f b) 6 = fldR (f b) 6 := fun _ _ => rfl
  have hrr11_7 : ∀ b, kd b = 11 → fldR (f b) 7 = fldR (f b) 7 := fun _ _ => rfl
  have hrr11_9 : ∀ b, kd b = 11 → fldR (f b) 9 = fldR (f b) 9 := fun _ _ => rfl
  have hrr11_10 : ∀ b, kd b = 11 → fldR (f b) 10 = fldR (f b) 10 := fun _ _ => rfl
  have hrr11_16 : ∀ b, kd b = 11 → fldR (f b) 16 = fldR (f b) 16 := fun _ _ => rfl
  have hrr3_0 : ∀ b, kd b = 3 → fldR (f b) 0 = fldR (f b) 0 := fun _ _ => rfl
  have hrr3_3 : ∀ b, kd b = 3 → fldR (f b) 3 = fldR (f b) 3 := fun _ _ => rfl
  have hrA12 : ∀ b, kd b = 12 → ∀ j, fldR (f b) j = fldR (f b) j := fun _ _ _ => rfl
  obtain ⟨a_2, v_3, a_4, a_5, a_6, a_7, a_8, a_9, v_10, a_11, a_12, a_13, v_14, v_15, a_16, v_17, a_18, a_19, v_20, hfo_1, ⟨ma_2, ka_2⟩, bv_3, ⟨ma_4, ka_4⟩, ⟨ma_5, ka_5⟩, ⟨ma_6, ka_6⟩, ⟨ma_7, ka_7⟩, ⟨ma_8, ka_8⟩, ⟨ma_9, ka_9⟩, bv_10, ⟨ma_11, ka_11⟩, ⟨ma_12, ka_12⟩, ⟨ma_13, ka_13⟩, bv_14, ⟨ma_16, ka_16⟩, bv_17, ⟨ma_18, ka_18⟩, ⟨ma_19, ka_19⟩⟩ := un_11 (hG _ mo1) ko1
  have bv_15 : ((-2147483648) ≤ v_15.toInt ∧ v_15.toInt ≤ 2147483647) := ⟨i32_lo _, i32_hi _⟩
  have bv_20 : ((-2147483648) ≤ v_20.toInt ∧ v_20.toInt ≤ 2147483647) := ⟨i32_lo _, i32_hi _⟩
  obtain ⟨a_21, a_22, a_23, v_24, a_25, v_26, v_27, v_28, v_29, v_30, v_31, v_32, v_33, v_34, v_35, a_36, a_37, a_38, a_39, a_40, a_41, a_42, a_43, v_44, v_45, v_46, v_47, v_48, a_49, v_50, a_51, a_52, v_53, v_54, a_55, v_56, a_57, a_58, v_59, v_60, a_61, a_62, a_63, v_64, a_65, a_66, a_67, a_68, a_69, a_70, a_71, a_72, a_73, v_74, v_75, a_76, hfo_77, fa_78⟩ := un12 (hG _ mo2) ko2
  have bv_24 : (0 ≤ v_24.toInt ∧ v_24.toInt ≤ 1) := fa12_3 fa_78
  have bv_26 : (0 ≤ v_26.toInt ∧ v_26.toInt ≤ 600) := fa12_5 fa_78
  have bv_50 : (0 ≤ v_50.toInt ∧ v_50.toInt ≤ 201) := fa12_29 fa_78
  have hT0 := hxtr0 a_5 (by rw [hfo_1]; rfl)
  have hT1 := hxtr1 a_8 (by rw [hfo_1]; rfl)
  obtain ⟨a_80, a_81, a_82, a_83, a_84, v_85, v_86, v_87, v_88, v_89, v_90, v_91, a_92, a_93, a_94, v_95, a_96, a_97, hfo_79, ⟨ma_80, ka_80⟩, ⟨ma_81, ka_81⟩, ⟨ma_82, ka_82⟩, ⟨ma_83, ka_83⟩, ⟨ma_84, ka_84⟩, bv_85, bv_86, bv_87, ⟨ma_92, ka_92⟩, ⟨ma_93, ka_93⟩, ⟨ma_94, ka_94⟩, bv_95, ⟨ma_96, ka_96⟩, ⟨ma_97, ka_97⟩⟩ := un_3 (hG _ ma_4) ka_4
  have bv_88 : ((-2147483648) ≤ v_88.toInt ∧ v_88.toInt ≤ 2147483647) := ⟨i32_lo _, i32_hi _⟩
  have bv_89 : ((-2147483648) ≤ v_89.toInt ∧ v_89.toInt ≤ 2147483647) := ⟨i32_lo _, i32_hi _⟩
  have bv_90 : ((-2147483648) ≤ v_90.toInt ∧ v_90.toInt ≤ 2147483647) := ⟨i32_lo _, i32_hi _⟩
  have bv_91 : ((-2147483648) ≤ v_91.toInt ∧ v_91.toInt ≤ 2147483647) := ⟨i32_lo _, i32_hi _⟩
  have hT2 := hxtr2 a_4 a_83 (by rw [hfo_1]; rfl) (by rw [hfo_79]; rfl)
  have hT3 := hxtr3
  have hT4 := hxtr4
  have hT5 := hxtr5
  have hT6 := hxtr6
  have h29 := hx29 v_50 (by rw [hfo_77]; rfl)
  have htp := hxtp v_3 v_26 (by rw [hfo_1]; rfl) (by rw [hfo_77]; rfl)
  have him := hxim v_10 v_24 (by rw [hfo_1]; rfl) (by rw [hfo_77]; rfl)
  refine lv_aload_n hx hb dL_law_450 rfl (lv_at hl 2 rfl) ?_
  refine tk_ViP (As := []) (rest := []) (n := 0) hx hb hml hown hU hN hZ (s_X11_where_k11 l (dC, dI) cI cL cZ cR cG cH Z kd L f hG o1 mo1 ko1) wd_1089 wd_1090 wd_1091 wd_2 wd_1092 (by decide +kernel) ⟨Nat.le_of_ble_eq_true rfl, Nat.le_of_ble_eq_true rfl⟩ hK hP hD hS mo1 hfo_1 11 rfl rfl rfl hl.1 rfl (Nat.le_of_ble_eq_true rfl) dL_law_451 ⟨Nat.le_of_ble_eq_true rfl, Nat.le_of_ble_eq_true rfl⟩ (fun x_98 f_99 H locs hw hP hD hS => ?_)
  obtain ⟨rfl, bx_98⟩ := hw
  refine lv_pop hx hb dL_law_454 rfl ?_
  refine lv_aload_n hx hb dL_law_455 rfl (lv_at hl 3 rfl) ?_
  refine tk_ViP (As := []) (rest := []) (n := 0) hx hb hml hown hU hN hZ (s_X12_where_k12 l (dC, dI) cI cL cZ cR cG cH Z kd L f hG o2 mo2 ko2) wd_1093 wd_1094 wd_1095 wd_5 wd_1096 (by decide +kernel) ⟨Nat.le_of_ble_eq_true rfl, Nat.le_of_ble_eq_true rfl⟩ hK hP hD hS mo2 hfo_77 12 rfl rfl rfl hl.1 rfl (Nat.le_of_ble_eq_true rfl) dL_law_456 ⟨Nat.le_of_ble_eq_true rfl, Nat.le_of_ble_eq_true rfl⟩ (fun x_101 f_102 H locs hw hP hD hS => ?_)
  obtain ⟨rfl, bx_101⟩ := hw
  refine lv_pop hx hb dL_law_459 rfl ?_
  refine lv_goto (tgt := 933) hx hb dL_law_460 (by decide) ?_
  exact kk f _ _ hG hP hD hS ⟨(fun d9 h9 => by rw [hfo_1] at h9; obtain rfl := Option.some.inj h9; exact hT0), (fun d9 h9 => by rw [hfo_1] at h9; obtain rfl := Option.some.inj h9; exact hT1), (fun r9 d9 h8 h9 => by rw [hfo_1] at h8; obtain rfl := Option.some.inj h8; rw [hfo_79] at h9; obtain rfl := Option.some.inj h9; exact hT2), hT3, hT4, hT5, hT6, (fun z9 h9 => by rw [hfo_77] at h9; obtain rfl := Option.some.inj h9; omega), (fun y9 z9 h8 h9 => by rw [hfo_1] at h8; obtain rfl := Option.some.inj h8; rw [hfo_77] at h9; obtain rfl := Option.some.inj h9; omega), (fun y9 z9 h8 h9 => by rw [hfo_1] at h8; obtain rfl := Option.some.inj h8; rw [hfo_77] at h9; obtain rfl := Option.some.inj h9; omega)⟩ ls (lv_sub hl [0, 1, 2, 3] rfl)
set_option maxHeartbeats 8000000 in
set_option maxRecDepth 100000 in
theorem law_c13 {p : Program} {l : Launch} {e : Env} {s : State} {m : MethodId} {below : List Frame} {meth : Method} {c : Code} {dC : Nat → ClassId} {dI : Nat → Nat → Nat} {cI cL cZ cR cG cH : ClassId} {Z : zT} {kd : Nat → Nat} {L : List Nat} {b Ln : Nat} {xs : Nat → Int32} (hLn : Ln ≤ 384) (C0 : lw_At p s m meth c b Ln xs) (hK : va_K (dC, dI) vwCl (TY6 cI cL cZ cR cG cH) s) (hN : nsW s) (hZ : zW Z L s) (hLs : ∀ q ∈ L, s.heap.size ≤ q) {o1 o2 : Nat} (mo1 : o1 ∈ L) (ko1 : kd o1 = 11) (mo2 : o2 ∈ L) (ko2 : kd o2 = 12) {f : Nat → va_E} (hG : GI (okc cI cL cZ cR cG cH L kd) kd L f) {H : Heap} {locs : List Loc} (hP : va_P (dC, dI) vwCl (va_pl L f) H) (hD : va_D (fun q => q ∈ L) (va_pl L f)) (hS : va_S (fun q => q ∈ L) s.heap H locs) (hI : lawI kd f o1 o2) {i0 : Int32} (bi0 : 0 ≤ i0.toInt ∧ i0.toInt ≤ 378) (hi0 : i0.toInt + 6 ≤ (Ln : Int))
    (kk : ∀ (f1 : Nat → va_E) (H1 : Heap) (locs1 : List Loc), GI (okc cI cL cZ cR cG cH L kd) kd L f1 → va_P (dC, dI) vwCl (va_pl L f1) H1 → va_D (fun q => q ∈ L) (va_pl L f1) → va_S (fun q => q ∈ L) s.heap H1 locs1 → lawI kd f1 o1 o2 → ∀ (ls : Array Slot), lv_has ls 4 [(3, .int i0), (0, .ref b), (1, .ref o1), (2, .ref o2)] → W p l e room_1 s m #[Value.ref b] below meth c H1 locs1 559 115398 (lw_Z below #[Value.ref b] s) (F0 m 933 ls []))
    {ls : Array Slot} (hl : lv_has ls 4 [(3, .int i0), (0, .ref b), (1, .ref o1), (2, .ref o2)]) : W p l e room_1 s m #[Value.ref b] below meth c H locs 559 115398 (lw_Z below #[Value.ref b] s) (F0 m 463 ls []) := by
  obtain ⟨hx, hb, hr, hml, hown0, hts, hX, hbl, hlocks, hgv⟩ := C0
  have hown : s.vm.findClass RL = some m.cls := hown0
  have hU : ∀ w ∈ wsU, w.before #[Value.ref b] s = true := fun w h => hts w (wsU_in w h)
  have hbA : ¬ (fun q => q ∈ L) b := fun h => absurd (hLs b h) (Nat.not_le.mpr hbl)
  obtain ⟨hxtr0, hxtr1, hxtr2, hxtr3, hxtr4, hxtr5, hxtr6, hx29, hxtp, hxim⟩ := hI
  have hrr11_2 : ∀ b, kd b = 11 → fldR (f b) 2 = fldR (f b) 2 := fun _ _ => rfl
  have hrr11_3 : ∀ b, kd b = 11 → fldR (f b) 3 = fldR (f b) 3 := fun _ _ => rfl
  have hrr11_5 : ∀ b, kd b = 11 → fldR (f b) 5 = fldR (f b) 5 := fun _ _ => rfl
  have hrr11_6 : ∀ b, kd b = 11 → fldR (f b) 6 = fldR (f b) 6 := fun _ _ => rfl
  have hrr11_7 : ∀ b, kd b = 11 → fldR (f b) 7 = fldR (f b) 7 := fun _ _ => rfl
  have hrr11_9 : ∀ b, kd b = 11 → fldR (f b) 9 = fldR (f b) 9 := fun _ _ => rfl
  have hrr11_10 : ∀ b, kd b = 11 → fldR (f b) 10 = fldR (f b) 10 := fun _ _ => rfl
  have hrr11_16 : ∀ b, kd b = 11 → fldR (f b) 16 = fldR (f b) 16 := fun _ _ => rfl
  have hrr3_0 : ∀ b, kd b = 3 → fldR (f b) 0 = fldR (f b) 0 := fun _ _ => rfl
  have hrr3_3 : ∀ b, kd b = 3 → fldR (f b) 3 = fldR (f b) 3 := fun _ _ => rfl
  have hrA12 : ∀ b, kd b = 12 → ∀ j, fldR (f b) j = fldR (f b) j := fun _ _ _ => rfl
  obtain ⟨a_2, v_3, a_4, a_5, a_6, a_7, a_8, a_9, v_10, a_11, a_12, a_13, v_14, v_15, a_16, v_17, a_18, a_19, v_20, hfo_1, ⟨ma_2, ka_2⟩, bv_3, ⟨ma_4, ka_4⟩, ⟨ma_5, ka_5⟩, ⟨ma_6, ka_6⟩, ⟨ma_7, ka_7⟩, ⟨ma_8, ka_8⟩, ⟨ma_9, ka_9⟩, bv_10, ⟨ma_11, ka_11⟩, ⟨ma_12, ka_12⟩, ⟨ma_13, ka_13⟩, bv_14, ⟨ma_16, ka_16⟩, bv_17, ⟨ma_18, ka_18⟩, ⟨ma_19, ka_19⟩⟩ := un_11 (hG _ mo1) ko1
  have bv_15 : ((-2147483648) ≤ v_15.toInt ∧ v_15.toInt ≤ 2147483647) := ⟨i32_lo _, i32_hi _⟩
  have bv_20 : ((-2147483648) ≤ v_20.toInt ∧ v_20.toInt ≤ 2147483647) := ⟨i32_lo _, i32_hi _⟩
  obtain ⟨a_21, a_22, a_23, v_24, a_25, v_26, v_27, v_28, v_29, v_30, v_31, v_32, v_33, v_34, v_35, a_36, a_37, a_38, a_39, a_40, a_41, a_42, a_43, v_44, v_45, v_46, v_47, v_48, a_49, v_50, a_51, a_52, v_53, v_54, a_55, v_56, a_57, a_58, v_59, v_60, a_61, a_62, a_63, v_64, a_65, a_66, a_67, a_68, a_69, a_70, a_71, a_72, a_73, v_74, v_75, a_76, hfo_77, fa_78⟩ := un12 (hG _ mo2) ko2
  have bv_24 : (0 ≤ v_24.toInt ∧ v_24.toInt ≤ 1) := fa12_3 fa_78
  have bv_26 : (0 ≤ v_26.toInt ∧ v_26.toInt ≤ 600) := fa12_5 fa_78
  have bv_50 : (0 ≤ v_50.toInt ∧ v_50.toInt ≤ 201) := fa12_29 fa_78
  have hT0 := hxtr0 a_5 (by rw [hfo_1]; rfl)
  have hT1 := hxtr1 a_8 (by rw [hfo_1]; rfl)
  obtain ⟨a_80, a_81, a_82, a_83, a_84, v_85, v_86, v_87, v_88, v_89, v_90, v_91, a_92, a_93, a_94, v_95, a_96, a_97, hfo_79, ⟨ma_80, ka_80⟩, ⟨ma_81, ka_81⟩, ⟨ma_82, ka_82⟩, ⟨ma_83, ka_83⟩, ⟨ma_84, ka_84⟩, bv_85, bv_86, bv_87, ⟨ma_92, ka_92⟩, ⟨ma_93, ka_93⟩, ⟨ma_94, ka_94⟩, bv_95, ⟨ma_96, ka_96⟩, ⟨ma_97, ka_97⟩⟩ := un_3 (hG _ ma_4) ka_4
  have bv_88 : ((-2147483648) ≤ v_88.toInt ∧ v_88.toInt ≤ 2147483647) := ⟨i32_lo _, i32_hi _⟩
  have bv_89 : ((-2147483648) ≤ v_89.toInt ∧ v_89.toInt ≤ 2147483647) := ⟨i32_lo _, i32_hi _⟩
  have bv_90 : ((-2147483648) ≤ v_90.toInt ∧ v_90.toInt ≤ 2147483647) := ⟨i32_lo _, i32_hi _⟩
  have bv_91 : ((-2147483648) ≤ v_91.toInt ∧ v_91.toInt ≤ 2147483647) := ⟨i32_lo _, i32_hi _⟩
  have hT2 := hxtr2 a_4 a_83 (by rw [hfo_1]; rfl) (by rw [hfo_79]; rfl)
  have hT3 := hxtr3
  have hT4 := hxtr4
  have hT5 := hxtr5
  have hT6 := hxtr6
  have h29 := hx29 v_50 (by rw [hfo_77]; rfl)
  have htp := hxtp v_3 v_26 (by rw [hfo_1]; rfl) (by rw [hfo_77]; rfl)
  have him := hxim v_10 v_24 (by rw [hfo_1]; rfl) (by rw [hfo_77]; rfl)
  refine lv_aload_n hx hb dL_law_463 rfl (lv_at hl 2 rfl) ?_
  refine tk_ViP (As := []) (rest := []) (n := 0) hx hb hml hown hU hN hZ (s_X11_ages_k11 l (dC, dI) cI cL cZ cR cG cH Z kd L f hG o1 mo1 ko1 (fun d9 h9 => by rw [hfo_1] at h9; obtain rfl := Option.some.inj h9; exact hT0) hT3) wd_1097 wd_1098 wd_1099 wd_2 wd_1100 (by decide +kernel) ⟨Nat.le_of_ble_eq_true rfl, Nat.le_of_ble_eq_true rfl⟩ hK hP hD hS mo1 hfo_1 11 rfl rfl rfl hl.1 rfl (Nat.le_of_ble_eq_true rfl) dL_law_464 ⟨Nat.le_of_ble_eq_true rfl, Nat.le_of_ble_eq_true rfl⟩ (fun x_98 f_99 H locs hw hP hD hS => ?_)
  obtain ⟨hG, bx_98, hkc_100, hfc_101, hrc_102, hrc_103, hrc_104, hrc_105, hrc_106, hrc_107, hrc_108, hrc_109, hpost_110, hTc_111, hTc_112⟩ := hw
  have hfo_114 : f_99 o2 = .inr (12, [.ref a_21, .ref a_22, .ref a_23, .int v_24, .ref a_25, .int v_26, .int v_27, .int v_28, .int v_29, .int v_30, .int v_31, .int v_32, .int v_33, .int v_34, .int v_35, .ref a_36, .ref a_37, .ref a_38, .ref a_39, .ref a_40, .ref a_41, .ref a_42, .ref a_43, .int v_44, .int v_45, .int v_46, .int v_47, .int v_48, .ref a_49, .int v_50, .ref a_51, .ref a_52, .int v_53, .int v_54, .ref a_55, .int v_56, .ref a_57, .ref a_58, .int v_59, .int v_60, .ref a_61, .ref a_62, .ref a_63, .int v_64, .ref a_65, .ref a_66, .ref a_67, .ref a_68, .ref a_69, .ref a_70, .ref a_71, .ref a_72, .ref a_73, .int v_74, .int v_75, .ref a_76]) := by rw [hkc_100 o2 (by rw [ko2]; decide) (by rw [ko2]; decide) (by rw [ko2]; decide) (by rw [ko2]; decide)]; exact hfo_77
  have hfo_115 : f_99 a_4 = .inr (3, [.ref a_80, .ref a_81, .ref a_82, .ref a_83, .ref a_84, .int v_85, .int v_86, .int v_87, .int v_88, .int v_89, .int v_90, .int v_91, .ref a_92, .ref a_93, .ref a_94, .int v_95, .ref a_96, .ref a_97]) := by rw [hkc_100 a_4 (by rw [ka_4]; decide) (by rw [ka_4]; decide) (by rw [ka_4]; decide) (by rw [ka_4]; decide)]; exact hfo_79
  have hrr11_2 : ∀ b, kd b = 11 → fldR (f_99 b) 2 = fldR (f b) 2 := fun b kb => (hrc_102 b kb).trans (hrr11_2 b kb)
  have hrr11_3 : ∀ b, kd b = 11 → fldR (f_99 b) 3 = fldR (f b) 3 := fun b kb => (hrc_103 b kb).trans (hrr11_3 b kb)
  have hrr11_5 : ∀ b, kd b = 11 → fldR (f_99 b) 5 = fldR (f b) 5 := fun b kb => (hrc_104 b kb).trans (hrr11_5 b kb)
  have hrr11_6 : ∀ b, kd b = 11 → fldR (f_99 b) 6 = fldR (f b) 6 := fun b kb => (hrc_105 b kb).trans (hrr11_6 b kb)
  have hrr11_7 : ∀ b, kd b = 11 → fldR (f_99 b) 7 = fldR (f b) 7 := fun b kb => (hrc_106 b kb).trans (hrr11_7 b kb)
  have hrr11_9 : ∀ b, kd b = 11 → fldR (f_99 b) 9 = fldR (f b) 9 := fun b kb => (hrc_107 b kb).trans (hrr11_9 b kb)
  have hrr11_10 : ∀ b, kd b = 11 → fldR (f_99 b) 10 = fldR (f b) 10 := fun b kb => (hrc_108 b kb).trans (hrr11_10 b kb)
  have hrr11_16 : ∀ b, kd b = 11 → fldR (f_99 b) 16 = fldR (f b) 16 := fun b kb => (hrc_109 b kb).trans (hrr11_16 b kb)
  have hrr3_0 : ∀ b, kd b = 3 → fldR (f_99 b) 0 = fldR (f b) 0 := fun b kb => (congrArg (fun x => fldR x 0) (hkc_100 b (by rw [kb]; decide) (by rw [kb]; decide) (by rw [kb]; decide) (by rw [kb]; decide))).trans (hrr3_0 b kb)
  have hrr3_3 : ∀ b, kd b = 3 → fldR (f_99 b) 3 = fldR (f b) 3 := fun b kb => (congrArg (fun x => fldR x 3) (hkc_100 b (by rw [kb]; decide) (by rw [kb]; decide) (by rw [kb]; decide) (by rw [kb]; decide))).trans (hrr3_3 b kb)
  have hrA12 : ∀ b, kd b = 12 → ∀ j, fldR (f_99 b) j = fldR (f b) j := fun b kb j => (congrArg (fun x => fldR x j) (hkc_100 b (by rw [kb]; decide) (by rw [kb]; decide) (by rw [kb]; decide) (by rw [kb]; decide))).trans (hrA12 b kb j)
  have hT0 : trel kd 7 508 510 515 4 f_99 a_5 := hT0.keep (fun b q => hkc_100 b (by rw [q]; decide) (by rw [q]; decide) (by rw [q]; decide) (by rw [q]; decide)) (fun b q => hkc_100 b (by rw [q]; decide) (by rw [q]; decide) (by rw [q]; decide) (by rw [q]; decide)) (fun b q => hkc_100 b (by rw [q]; decide) (by rw [q]; decide) (by rw [q]; decide) (by rw [q]; decide)) (fun b q => hkc_100 b (by rw [q]; decide) (by rw [q]; decide) (by rw [q]; decide) (by rw [q]; decide)) (fun b q => congrArg (fun x => fldI x 1) (hkc_100 b (by rw [q]; decide) (by rw [q]; decide) (by rw [q]; decide) (by rw [q]; decide)))
  have hT1 : trel kd 107 549 551 556 104 f_99 a_8 := hT1.keep (fun b q => hkc_100 b (by rw [q]; decide) (by rw [q]; decide) (by rw [q]; decide) (by rw [q]; decide)) (fun b q => hkc_100 b (by rw [q]; decide) (by rw [q]; decide) (by rw [q]; decide) (by rw [q]; decide)) (fun b q => hkc_100 b (by rw [q]; decide) (by rw [q]; decide) (by rw [q]; decide) (by rw [q]; decide)) (fun b q => hkc_100 b (by rw [q]; decide) (by rw [q]; decide) (by rw [q]; decide) (by rw [q]; decide)) (fun b q => congrArg (fun x => fldI x 1) (hkc_100 b (by rw [q]; decide) (by rw [q]; decide) (by rw [q]; decide) (by rw [q]; decide)))
  have hT2 : drel kd 1 521 522 f_99 a_83 := hT2.keep (fun b q => congrArg (fun x => fldI x 5) (hkc_100 b (by rw [q]; decide) (by rw [q]; decide) (by rw [q]; decide) (by rw [q]; decide))) (fun b q => congrArg (fun x => fldR x 0) (hkc_100 b (by rw [q]; decide) (by rw [q]; decide) (by rw [q]; decide) (by rw [q]; decide))) (fun b q => congrArg (fun x => fldR x 1) (hkc_100 b (by rw [q]; decide) (by rw [q]; decide) (by rw [q]; decide) (by rw [q]; decide))) (fun b q => hkc_100 b (by rw [q]; decide) (by rw [q]; decide) (by rw [q]; decide) (by rw [q]; decide)) (fun b q => hkc_100 b (by rw [q]; decide) (by rw [q]; decide) (by rw [q]; decide) (by rw [q]; decide))
  have hT3 : urel kd 5 3 6 7 f_99 o1 := hT3.keep (fun b q => hrc_104 b q) (fun b q => hrc_103 b q) (fun b q => congrArg (fun x => fldI x 0) (hkc_100 b (by rw [q]; decide) (by rw [q]; decide) (by rw [q]; decide) (by rw [q]; decide))) (fun b q => congrArg (fun x => fldI x 12) (hkc_100 b (by rw [q]; decide) (by rw [q]; decide) (by rw [q]; decide) (by rw [q]; decide)))
  have hT4 : urel kd 7 6 106 107 f_99 o1 := hT4.keep (fun b q => hrc_106 b q) (fun b q => hrc_105 b q) (fun b q => congrArg (fun x => fldI x 0) (hkc_100 b (by rw [q]; decide) (by rw [q]; decide) (by rw [q]; decide) (by rw [q]; decide))) (fun b q => congrArg (fun x => fldI x 12) (hkc_100 b (by rw [q]; decide) (by rw [q]; decide) (by rw [q]; decide) (by rw [q]; decide)))
  have hT5 : alrel kd f_99 o1 := hT5.keep (fun b q => hrc_102 b q) (fun b q => hrc_103 b q) (fun b q => congrArg (fun x => fldR x 0) (hkc_100 b (by rw [q]; decide) (by rw [q]; decide) (by rw [q]; decide) (by rw [q]; decide)))
  have hT6 : srel kd 592 f_99 o2 := hT6.keep (fun b q => congrArg (fun x => fldR x 30) (hkc_100 b (by rw [q]; decide) (by rw [q]; decide) (by rw [q]; decide) (by rw [q]; decide))) (fun b q => congrArg (fun x => fldI x 32) (hkc_100 b (by rw [q]; decide) (by rw [q]; decide) (by rw [q]; decide) (by rw [q]; decide))) (fun b q => congrArg (fun x => fldI x 33) (hkc_100 b (by rw [q]; decide) (by rw [q]; decide) (by rw [q]; decide) (by rw [q]; decide))) (fun b q => hkc_100 b (by rw [q]; decide) (by rw [q]; decide) (by rw [q]; decide) (by rw [q]; decide))
  obtain ⟨a_117, v_118, a_119, a_120, a_121, a_122, a_123, a_124, v_125, a_126, a_127, a_128, v_129, v_130, a_131, v_132, a_133, a_134, v_135, hfo_116, ⟨ma_117, ka_117⟩, bv_118, ⟨ma_119, ka_119⟩, ⟨ma_120, ka_120⟩, ⟨ma_121, ka_121⟩, ⟨ma_122, ka_122⟩, ⟨ma_123, ka_123⟩, ⟨ma_124, ka_124⟩, bv_125, ⟨ma_126, ka_126⟩, ⟨ma_127, ka_127⟩, ⟨ma_128, ka_128⟩, bv_129, ⟨ma_131, ka_131⟩, bv_132, ⟨ma_133, ka_133⟩, ⟨ma_134, ka_134⟩⟩ := un_11 (hG _ mo1) ko1
  have bv_130 : ((-2147483648) ≤ v_130.toInt ∧ v_130.toInt ≤ 2147483647) := ⟨i32_lo _, i32_hi _⟩
  have bv_135 : ((-2147483648) ≤ v_135.toInt ∧ v_135.toInt ≤ 2147483647) := ⟨i32_lo _, i32_hi _⟩
  obtain rfl : a_4 = a_119 := by have hk9 := hrr11_2 o1 ko1; rw [hfo_116, hfo_1] at hk9; exact (Option.some.inj hk9).symm
  obtain rfl : a_5 = a_120 := by have hk9 := hrr11_3 o1 ko1; rw [hfo_116, hfo_1] at hk9; exact (Option.some.inj hk9).symm
  obtain rfl : a_7 = a_122 := by have hk9 := hrr11_5 o1 ko1; rw [hfo_116, hfo_1] at hk9; exact (Option.some.inj hk9).symm
  obtain rfl : a_8 = a_123 := by have hk9 := hrr11_6 o1 ko1; rw [hfo_116, hfo_1] at hk9; exact (Option.some.inj hk9).symm
  obtain rfl : a_9 = a_124 := by have hk9 := hrr11_7 o1 ko1; rw [hfo_116, hfo_1] at hk9; exact (Option.some.inj hk9).symm
  obtain rfl : a_11 = a_126 := by have hk9 := hrr11_9 o1 ko1; rw [hfo_116, hfo_1] at hk9; exact (Option.some.inj hk9).symm
  obtain rfl : a_12 = a_127 := by have hk9 := hrr11_10 o1 ko1; rw [hfo_116, hfo_1] at hk9; exact (Option.some.inj hk9).symm
  obtain rfl : a_18 = a_133 := by have hk9 := hrr11_16 o1 ko1; rw [hfo_116, hfo_1] at hk9; exact (Option.some.inj hk9).symm
  obtain rfl : v_10 = v_125 := by have hk9 := hfc_101 o1 ko1; rw [hfo_116, hfo_1] at hk9; exact (Option.some.inj hk9).symm
  have hqhpost_110 := hpost_110 v_3 v_118 (by rw [hfo_1]; rfl) (by rw [hfo_116]; rfl)
  have hT_136 := hTc_111 a_5 (by rw [hfo_116]; rfl)
  refine lv_pop hx hb dL_law_467 rfl ?_
  refine lv_aload_n hx hb dL_law_468 rfl (lv_at hl 3 rfl) ?_
  refine tk_ViP (As := []) (rest := []) (n := 0) hx hb hml hown hU hN hZ (s_X12_ages_k12 l (dC, dI) cI cL cZ cR cG cH Z kd L f_99 hG o2 mo2 ko2) wd_1115 wd_1116 wd_1117 wd_5 wd_1118 (by decide +kernel) ⟨Nat.le_of_ble_eq_true rfl, Nat.le_of_ble_eq_true rfl⟩ hK hP hD hS mo2 hfo_114 12 rfl rfl rfl hl.1 rfl (Nat.le_of_ble_eq_true rfl) dL_law_469 ⟨Nat.le_of_ble_eq_true rfl, Nat.le_of_ble_eq_true rfl⟩ (fun x_137 f_138 H locs hw hP hD hS => ?_)
  obtain ⟨hG, bx_137, hkc_139, hra_140, hfa_141, hpost_142⟩ := hw
  have hfo_144 : f_138 a_4 = .inr (3, [.ref a_80, .ref a_81, .ref a_82, .ref a_83, .ref a_84, .int v_85, .int v_86, .int v_87, .int v_88, .int v_89, .int v_90, .int v_91, .ref a_92, .ref a_93, .ref a_94, .int v_95, .ref a_96, .ref a_97]) := by rw [hkc_139 a_4 (by rw [ka_4]; decide) (by rw [ka_4]; decide) (by rw [ka_4]; decide) (by rw [ka_4]; decide) (by rw [ka_4]; decide)]; exact hfo_115
  have hfo_145 : f_138 o1 = .inr (11, [.ref a_117, .int v_118, .ref a_4, .ref a_5, .ref a_121, .ref a_7, .ref a_8, .ref a_9, .int v_10, .ref a_11, .ref a_12, .ref a_128, .int v_129, .int v_130, .ref a_131, .int v_132, .ref a_18, .ref a_134, .int v_135]) := by rw [hkc_139 o1 (by rw [ko1]; decide) (by rw [ko1]; decide) (by rw [ko1]; decide) (by rw [ko1]; decide) (by rw [ko1]; decide)]; exact hfo_116
  have hrr11_2 : ∀ b, kd b = 11 → fldR (f_138 b) 2 = fldR (f b) 2 := fun b kb => (congrArg (fun x => fldR x 2) (hkc_139 b (by rw [kb]; decide) (by rw [kb]; decide) (by rw [kb]; decide) (by rw [kb]; decide) (by rw [kb]; decide))).trans (hrr11_2 b kb)
  have hrr11_3 : ∀ b, kd b = 11 → fldR (f_138 b) 3 = fldR (f b) 3 := fun b kb => (congrArg (fun x => fldR x 3) (hkc_139 b (by rw [kb]; decide) (by rw [kb]; decide) (by rw [kb]; decide) (by rw [kb]; decide) (by rw [kb]; decide))).trans (hrr11_3 b kb)
  have hrr11_5 : ∀ b, kd b = 11 → fldR (f_138 b) 5 = fldR (f b) 5 := fun b kb => (congrArg (fun x => fldR x 5) (hkc_139 b (by rw [kb]; decide) (by rw [kb]; decide) (by rw [kb]; decide) (by rw [kb]; decide) (by rw [kb]; decide))).trans (hrr11_5 b kb)
  have hrr11_6 : ∀ b, kd b = 11 → fldR (f_138 b) 6 = fldR (f b) 6 := fun b kb => (congrArg (fun x => fldR x 6) (hkc_139 b (by rw [kb]; decide) (by rw [kb]; decide) (by rw [kb]; decide) (by rw [kb]; decide) (by rw [kb]; decide))).trans (hrr11_6 b kb)
  have hrr11_7 : ∀ b, kd b = 11 → fldR (f_138 b) 7 = fldR (f b) 7 := fun b kb => (congrArg (fun x => fldR x 7) (hkc_139 b (by rw [kb]; decide) (by rw [kb]; decide) (by rw [kb]; decide) (by rw [kb]; decide) (by rw [kb]; decide))).trans (hrr11_7 b kb)
  have hrr11_9 : ∀ b, kd b = 11 → fldR (f_138 b) 9 = fldR (f b) 9 := fun b kb => (congrArg (fun x => fldR x 9) (hkc_139 b (by rw [kb]; decide) (by rw [kb]; decide) (by rw [kb]; decide) (by rw [kb]; decide) (by rw [kb]; decide))).trans (hrr11_9 b kb)
  have hrr11_10 : ∀ b, kd b = 11 → fldR (f_138 b) 10 = fldR (f b) 10 := fun b kb => (congrArg (fun x => fldR x 10) (hkc_139 b (by rw [kb]; decide) (by rw [kb]; decide) (by rw [kb]; decide) (by rw [kb]; decide) (by rw [kb]; decide))).trans (hrr11_10 b kb)
  have hrr11_16 : ∀ b, kd b = 11 → fldR (f_138 b) 16 = fldR (f b) 16 := fun b kb => (congrArg (fun x => fldR x 16) (hkc_139 b (by rw [kb]; decide) (by rw [kb]; decide) (by rw [kb]; decide) (by rw [kb]; decide) (by rw [kb]; decide))).trans (hrr11_16 b kb)
  have hrr3_0 : ∀ b, kd b = 3 → fldR (f_138 b) 0 = fldR (f b) 0 := fun b kb => (congrArg (fun x => fldR x 0) (hkc_139 b (by rw [kb]; decide) (by rw [kb]; decide) (by rw [kb]; decide) (by rw [kb]; decide) (by rw [kb]; decide))).trans (hrr3_0 b kb)
  have hrr3_3 : ∀ b, kd b = 3 → fldR (f_138 b) 3 = fldR (f b) 3 := fun b kb => (congrArg (fun x => fldR x 3) (hkc_139 b (by rw [kb]; decide) (by rw [kb]; decide) (by rw [kb]; decide) (by rw [kb]; decide) (by rw [kb]; decide))).trans (hrr3_3 b kb)
  have hrA12 : ∀ b, kd b = 12 → ∀ j, fldR (f_138 b) j = fldR (f b) j := fun b kb j => (hra_140 b kb j).trans (hrA12 b kb j)
  have hT_136 : trel kd 7 508 510 515 4 f_138 a_5 := hT_136.keep (fun b q => hkc_139 b (by rw [q]; decide) (by rw [q]; decide) (by rw [q]; decide) (by rw [q]; decide) (by rw [q]; decide)) (fun b q => hkc_139 b (by rw [q]; decide) (by rw [q]; decide) (by rw [q]; decide) (by rw [q]; decide) (by rw [q]; decide)) (fun b q => hkc_139 b (by rw [q]; decide) (by rw [q]; decide) (by rw [q]; decide) (by rw [q]; decide) (by rw [q]; decide)) (fun b q => hkc_139 b (by rw [q]; decide) (by rw [q]; decide) (by rw [q]; decide) (by rw [q]; decide) (by rw [q]; decide)) (fun b q => congrArg (fun x => fldI x 1) (hkc_139 b (by rw [q]; decide) (by rw [q]; decide) (by rw [q]; decide) (by rw [q]; decide) (by rw [q]; decide)))
  have hT1 : trel kd 107 549 551 556 104 f_138 a_8 := hT1.keep (fun b q => hkc_139 b (by rw [q]; decide) (by rw [q]; decide) (by rw [q]; decide) (by rw [q]; decide) (by rw [q]; decide)) (fun b q => hkc_139 b (by rw [q]; decide) (by rw [q]; decide) (by rw [q]; decide) (by rw [q]; decide) (by rw [q]; decide)) (fun b q => hkc_139 b (by rw [q]; decide) (by rw [q]; decide) (by rw [q]; decide) (by rw [q]; decide) (by rw [q]; decide)) (fun b q => hkc_139 b (by rw [q]; decide) (by rw [q]; decide) (by rw [q]; decide) (by rw [q]; decide) (by rw [q]; decide)) (fun b q => congrArg (fun x => fldI x 1) (hkc_139 b (by rw [q]; decide) (by rw [q]; decide) (by rw [q]; decide) (by rw [q]; decide) (by rw [q]; decide)))
  have hT2 : drel kd 1 521 522 f_138 a_83 := hT2.keep (fun b q => congrArg (fun x => fldI x 5) (hkc_139 b (by rw [q]; decide) (by rw [q]; decide) (by rw [q]; decide) (by rw [q]; decide) (by rw [q]; decide))) (fun b q => congrArg (fun x => fldR x 0) (hkc_139 b (by rw [q]; decide) (by rw [q]; decide) (by rw [q]; decide) (by rw [q]; decide) (by rw [q]; decide))) (fun b q => congrArg (fun x => fldR x 1) (hkc_139 b (by rw [q]; decide) (by rw [q]; decide) (by rw [q]; decide) (by rw [q]; decide) (by rw [q]; decide))) (fun b q => hkc_139 b (by rw [q]; decide) (by rw [q]; decide) (by rw [q]; decide) (by rw [q]; decide) (by rw [q]; decide)) (fun b q => hkc_139 b (by rw [q]; decide) (by rw [q]; decide) (by rw [q]; decide) (by rw [q]; decide) (by rw [q]; decide))
  have hTc_112 : urel kd 5 3 6 7 f_138 o1 := hTc_112.keep (fun b q => congrArg (fun x => fldR x 5) (hkc_139 b (by rw [q]; decide) (by rw [q]; decide) (by rw [q]; decide) (by rw [q]; decide) (by rw [q]; decide))) (fun b q => congrArg (fun x => fldR x 3) (hkc_139 b (by rw [q]; decide) (by rw [q]; decide) (by rw [q]; decide) (by rw [q]; decide) (by rw [q]; decide))) (fun b q => congrArg (fun x => fldI x 0) (hkc_139 b (by rw [q]; decide) (by rw [q]; decide) (by rw [q]; decide) (by rw [q]; decide) (by rw [q]; decide))) (fun b q => congrArg (fun x => fldI x 12) (hkc_139 b (by rw [q]; decide) (by rw [q]; decide) (by rw [q]; decide) (by rw [q]; decide) (by rw [q]; decide)))
  have hT4 : urel kd 7 6 106 107 f_138 o1 := hT4.keep (fun b q => congrArg (fun x => fldR x 7) (hkc_139 b (by rw [q]; decide) (by rw [q]; decide) (by rw [q]; decide) (by rw [q]; decide) (by rw [q]; decide))) (fun b q => congrArg (fun x => fldR x 6) (hkc_139 b (by rw [q]; decide) (by rw [q]; decide) (by rw [q]; decide) (by rw [q]; decide) (by rw [q]; decide))) (fun b q => congrArg (fun x => fldI x 0) (hkc_139 b (by rw [q]; decide) (by rw [q]; decide) (by rw [q]; decide) (by rw [q]; decide) (by rw [q]; decide))) (fun b q => congrArg (fun x => fldI x 12) (hkc_139 b (by rw [q]; decide) (by rw [q]; decide) (by rw [q]; decide) (by rw [q]; decide) (by rw [q]; decide)))
  have hT5 : alrel kd f_138 o1 := hT5.keep (fun b q => congrArg (fun x => fldR x 2) (hkc_139 b (by rw [q]; decide) (by rw [q]; decide) (by rw [q]; decide) (by rw [q]; decide) (by rw [q]; decide))) (fun b q => congrArg (fun x => fldR x 3) (hkc_139 b (by rw [q]; decide) (by rw [q]; decide) (by rw [q]; decide) (by rw [q]; decide) (by rw [q]; decide))) (fun b q => congrArg (fun x => fldR x 0) (hkc_139 b (by rw [q]; decide) (by rw [q]; decide) (by rw [q]; decide) (by rw [q]; decide) (by rw [q]; decide)))
  have hT6 : srel kd 592 f_138 o2 := hT6.keep (fun b q => hra_140 b q 30) (fun b q => hfa_141 b q 32 (by decide) (by decide) (by decide)) (fun b q => hfa_141 b q 33 (by decide) (by decide) (by decide)) (fun b q => hkc_139 b (by rw [q]; decide) (by rw [q]; decide) (by rw [q]; decide) (by rw [q]; decide) (by rw [q]; decide))
  obtain ⟨v_146, v_147, v_148, hfo_149, fa_150⟩ := op12_5_23_43 hfo_114 (hG _ mo2) ko2 (hra_140 o2 ko2) (hfa_141 o2 ko2)
  have bv_146 : (0 ≤ v_146.toInt ∧ v_146.toInt ≤ 600) := fa12_5 fa_150
  have bv_147 : (0 ≤ v_147.toInt ∧ v_147.toInt ≤ 12) := fa12_23 fa_150
  have bv_148 : (0 ≤ v_148.toInt ∧ v_148.toInt ≤ 8) := fa12_43 fa_150
  have hqhpost_142 := hpost_142 v_26 v_146 (by rw [hfo_114]; rfl) (by rw [hfo_149]; rfl)
  refine lv_pop hx hb dL_law_472 rfl ?_
  refine lv_goto (tgt := 933) hx hb dL_law_473 (by decide) ?_
  exact kk f_138 _ _ hG hP hD hS ⟨(fun d9 h9 => by rw [hfo_145] at h9; obtain rfl := Option.some.inj h9; exact hT_136), (fun d9 h9 => by rw [hfo_145] at h9; obtain rfl := Option.some.inj h9; exact hT1), (fun r9 d9 h8 h9 => by rw [hfo_145] at h8; obtain rfl := Option.some.inj h8; rw [hfo_144] at h9; obtain rfl := Option.some.inj h9; exact hT2), hTc_112, hT4, hT5, hT6, (fun z9 h9 => by rw [hfo_149] at h9; obtain rfl := Option.some.inj h9; omega), (fun y9 z9 h8 h9 => by rw [hfo_145] at h8; obtain rfl := Option.some.inj h8; rw [hfo_149] at h9; obtain rfl := Option.some.inj h9; omega), (fun y9 z9 h8 h9 => by rw [hfo_145] at h8; obtain rfl := Option.some.inj h8; rw [hfo_149] at h9; obtain rfl := Option.some.inj h9; omega)⟩ ls (lv_sub hl [0, 1, 2, 3] rfl)
