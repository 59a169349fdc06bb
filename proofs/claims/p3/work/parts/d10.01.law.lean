set_option maxHeartbeats 8000000 in
set_option maxRecDepth 100000 in
theorem law_c3 {p : Program} {l : Launch} {e : Env} {s : State} {m : MethodId} {below : List Frame} {meth : Method} {c : Code} {dC : Nat → ClassId} {dI : Nat → Nat → Nat} {cI cL cZ cR cG cH : ClassId} {Z : zT} {kd : Nat → Nat} {L : List Nat} {b Ln : Nat} {xs : Nat → Int32} (hLn : Ln ≤ 384) (C0 : lw_At p s m meth c b Ln xs) (hK : va_K (dC, dI) vwCl (TY6 cI cL cZ cR cG cH) s) (hN : nsW s) (hZ : zW Z L s) (hLs : ∀ q ∈ L, s.heap.size ≤ q) {o1 o2 : Nat} (mo1 : o1 ∈ L) (ko1 : kd o1 = 11) (mo2 : o2 ∈ L) (ko2 : kd o2 = 12) {f : Nat → va_E} (hG : GI (okc cI cL cZ cR cG cH L kd) kd L f) {H : Heap} {locs : List Loc} (hP : va_P (dC, dI) vwCl (va_pl L f) H) (hD : va_D (fun q => q ∈ L) (va_pl L f)) (hS : va_S (fun q => q ∈ L) s.heap H locs) (hI : lawI kd f o1 o2) {i0 : Int32} (bi0 : 0 ≤ i0.toInt ∧ i0.toInt ≤ 378) (hi0 : i0.toInt + 6 ≤ (Ln : Int))
    (kk : ∀ (f1 : Nat → va_E) (H1 : Heap) (locs1 : List Loc), GI (okc cI cL cZ cR cG cH L kd) kd L f1 → va_P (dC, dI) vwCl (va_pl L f1) H1 → va_D (fun q => q ∈ L) (va_pl L f1) → va_S (fun q => q ∈ L) s.heap H1 locs1 → lawI kd f1 o1 o2 → ∀ (ls : Array Slot), lv_has ls 4 [(3, .int i0), (0, .ref b), (1, .ref o1), (2, .ref o2)] → W p l e room_1 s m #[Value.ref b] below meth c H1 locs1 559 115398 (lw_Z below #[Value.ref b] s) (F0 m 933 ls []))
    {ls : Array Slot} (hl : lv_has ls 4 [(3, .int i0), (0, .ref b), (1, .ref o1), (2, .ref o2)]) : W p l e room_1 s m #[Value.ref b] below meth c H locs 559 115398 (lw_Z below #[Value.ref b] s) (F0 m 263 ls []) := by
  obtain ⟨hx, hb, hr, hml, hown0, hts, hX, hbl, hlocks, hgv⟩ := C0
  have hown : s.vm.findClass RL = some m.cls := hown0
  have hU : ∀ w ∈ wsU, w.before #[Value.ref b] s = true := fun w h => hts w (wsU_in w h)
  have hbA : ¬ (fun q => q ∈ L) b := fun h => absurd (hLs b h) (Nat.not_le.mpr hbl)
  obtain ⟨hxtr0, hxtr1, hxtr2, hxtr3, hxtr4, hxtr5, hxtr6, hx29, hxtp, hxim⟩ := hI
  have hrr11_2 : ∀ b, kd b = 11 → fldR (f b) 2 = fldR (f b) 2 := fun _ _ => rfl
  have hrr11_3 : ∀ b, kd b = 11 → fldR (f b) 3 = fldR (f b) 3 := fun _ _ => rfl
  have hrr11_5 : ∀ b, kd b = 11 → fldR (f b) 5 = fldR (f b) 5 := fun _ _ => rfl
  have hrr11_6 : ∀ b, kd b = 11 → fldR (f b) 6 = fldR (f b) 6 := fun _ _ => rfl
  have hrr11_7 : ∀ b, kd b = 11 → fldR (f b) 7 = fldR (f b) 7 := fun _ _ => rfl
  have hrr11_9 : ∀ b, kd b = 11 → fldR (f b) 9 = fldR (f b) 9 := fun _ _ => rfl
  have hrr11_10 : ∀ b, kd b = 11 → fldR (f b) 10 = fldR (f b) 10 := fun _ _ => rfl
  have hrr11_16 : ∀ b, kd b = 11 → fldR (f b) 16 = fldR (f b) 16 := fun _ _ => rfl
  have hrr3_0 : ∀ b, kd b = 3 → fldR (f b) 0 = fldR (f b) 0 := fun _ _ => rfl
  have hrr3_3 : ∀ b, kd b = 3 → fldR (f b) 3 = fldR (f b) 3 := fun _ _ => rfl
  have hrA12 : ∀ b, kd b = 12 → ∀ j, fldR (f b) j = fldR (f b) j := fun _ _ _ => rfl
  obtain ⟨a_2, v_3, a_4, a_5, a_6, a_7, a_8, a_9, v_10, a_11, a_12, a_13, v_14, v_15, a_16, v_17, a_18, a_19, v_20, hfo_1, ⟨ma_2, ka_2⟩, bv_3, ⟨ma_4, ka_4⟩, ⟨ma_5, ka_5⟩, ⟨ma_6, ka_6⟩, ⟨ma_7, ka_7⟩, ⟨ma_8, ka_8⟩, ⟨ma_9, ka_9⟩, bv_10, ⟨ma_11, ka_11⟩, ⟨ma_12, ka_12⟩, ⟨ma_13, ka_13⟩, bv_14, ⟨ma_16, ka_16⟩, bv_17, ⟨ma_18, ka_18⟩, ⟨ma_19, ka_19⟩⟩ := un_11 (hG _ mo1) ko1
  have bv_15 : ((-2147483648) ≤ v_15.toInt ∧ v_15.toInt ≤ 2147483647) := ⟨i32_lo _, i32_hi _⟩
  have bv_20 : ((-2147483648) ≤ v_20.toInt ∧ v_20.toInt ≤ 2147483647) := ⟨i32_lo _, i32_hi _⟩
  obtain ⟨a_21, a_22, a_23, v_24, a_25, v_26, v_27, v_28, v_29, v_30, v_31, v_32, v_33, v_34, v_35, a_36, a_37, a_38, a_39, a_40, a_41, a_42, a_43, v_44, v_45, v_46, v_47, v_48, a_49, v_50, a_51, a_52, v_53, v_54, a_55, v_56, a_57, a_58, v_59, v_60, a_61, a_62, a_63, v_64, a_65, a_66, a_67, a_68, a_69, a_70, a_71, a_72, a_73, v_74, v_75, a_76, hfo_77, fa_78⟩ := un12 (hG _ mo2) ko2
  have bv_24 : (0 ≤ v_24.toInt ∧ v_24.toInt ≤ 1) := fa12_3 fa_78
  have bv_26 : (0 ≤ v_26.toInt ∧ v_26.toInt ≤ 600) := fa12_5 fa_78
  have bv_50 : (0 ≤ v_50.toInt ∧ v_50.toInt ≤ 201) := fa12_29 fa_78
  have hT0 := hxtr0 a_5 (by rw [hfo_1]; rfl)
  have hT1 := hxtr1 a_8 (by rw [hfo_1]; rfl)
  obtain ⟨a_80, a_81, a_82, a_83, a_84, v_85, v_86, v_87, v_88, v_89, v_90, v_91, a_92, a_93, a_94, v_95, a_96, a_97, hfo_79, ⟨ma_80, ka_80⟩, ⟨ma_81, ka_81⟩, ⟨ma_82, ka_82⟩, ⟨ma_83, ka_83⟩, ⟨ma_84, ka_84⟩, bv_85, bv_86, bv_87, ⟨ma_92, ka_92⟩, ⟨ma_93, ka_93⟩, ⟨ma_94, ka_94⟩, bv_95, ⟨ma_96, ka_96⟩, ⟨ma_97, ka_97⟩⟩ := un_3 (hG _ ma_4) ka_4
  have bv_88 : ((-2147483648) ≤ v_88.toInt ∧ v_88.toInt ≤ 2147483647) := ⟨i32_lo _, i32_hi _⟩
  have bv_89 : ((-2147483648) ≤ v_89.toInt ∧ v_89.toInt ≤ 2147483647) := ⟨i32_lo _, i32_hi _⟩
  have bv_90 : ((-2147483648) ≤ v_90.toInt ∧ v_90.toInt ≤ 2147483647) := ⟨i32_lo _, i32_hi _⟩
  have bv_91 : ((-2147483648) ≤ v_91.toInt ∧ v_91.toInt ≤ 2147483647) := ⟨i32_lo _, i32_hi _⟩
  have hT2 := hxtr2 a_4 a_83 (by rw [hfo_1]; rfl) (by rw [hfo_79]; rfl)
  have hT3 := hxtr3
  have hT4 := hxtr4
  have hT5 := hxtr5
  have hT6 := hxtr6
  have h29 := hx29 v_50 (by rw [hfo_77]; rfl)
  have htp := hxtp v_3 v_26 (by rw [hfo_1]; rfl) (by rw [hfo_77]; rfl)
  have him := hxim v_10 v_24 (by rw [hfo_1]; rfl) (by rw [hfo_77]; rfl)
  refine lv_aload_n hx hb dL_law_263 rfl (lv_at hl 2 rfl) ?_
  refine lv_aload_n hx hb dL_law_264 rfl (lv_at hl 1 rfl) ?_
  refine lv_iload_n hx hb dL_law_265 rfl (lv_at hl 0 rfl) ?_
  refine lv_iconst (v := 1) hx hb dL_law_266 (by decide) ?_
  refine lv_iadd hx hb dL_law_267 ?_
  refine lv_topi (fun x_98 ex_98 => ?_)
  have hx_98 : x_98.toInt = i0.toInt + 1 := by rw [ex_98, ad_I (by rw [ti_1]; omega) (by rw [ti_1]; omega), ti_1]
  have bx_98 : (1 ≤ x_98.toInt ∧ x_98.toInt ≤ 379) := by constructor <;> omega
  refine va_sld hx hb hX hbl hbA hS (vp_in_iff.mpr (by constructor <;> omega)) dL_law_268 ?_
  refine lv_topi (fun x_99 ex_99 => ?_)
  have bx_99 : ((-2147483648) ≤ x_99.toInt ∧ x_99.toInt ≤ 2147483647) := ⟨i32_lo _, i32_hi _⟩
  refine tk_ViP (As := [.int x_99]) (rest := []) (n := 1) hx hb hml hown hU hN hZ (s_X11_fault_k11 l (dC, dI) cI cL cZ cR cG cH Z kd L f hG o1 mo1 ko1 x_99) wd_663 wd_664 wd_665 wd_2 wd_666 (by decide +kernel) ⟨Nat.le_of_ble_eq_true rfl, Nat.le_of_ble_eq_true rfl⟩ hK hP hD hS mo1 hfo_1 11 rfl rfl rfl hl.1 rfl (Nat.le_of_ble_eq_true rfl) dL_law_269 ⟨Nat.le_of_ble_eq_true rfl, Nat.le_of_ble_eq_true rfl⟩ (fun x_100 f_101 H locs hw hP hD hS => ?_)
  obtain ⟨rfl, bx_100⟩ := hw
  refine lv_pop hx hb dL_law_272 rfl ?_
  refine lv_aload_n hx hb dL_law_273 rfl (lv_at hl 3 rfl) ?_
  refine lv_aload_n hx hb dL_law_274 rfl (lv_at hl 1 rfl) ?_
  refine lv_iload_n hx hb dL_law_275 rfl (lv_at hl 0 rfl) ?_
  refine lv_iconst (v := 1) hx hb dL_law_276 (by decide) ?_
  refine lv_iadd hx hb dL_law_277 ?_
  refine lv_topi (fun x_103 ex_103 => ?_)
  have hx_103 : x_103.toInt = i0.toInt + 1 := by rw [ex_103, ad_I (by rw [ti_1]; omega) (by rw [ti_1]; omega), ti_1]
  have bx_103 : (1 ≤ x_103.toInt ∧ x_103.toInt ≤ 379) := by constructor <;> omega
  refine va_sld hx hb hX hbl hbA hS (vp_in_iff.mpr (by constructor <;> omega)) dL_law_278 ?_
  refine lv_topi (fun x_104 ex_104 => ?_)
  have bx_104 : ((-2147483648) ≤ x_104.toInt ∧ x_104.toInt ≤ 2147483647) := ⟨i32_lo _, i32_hi _⟩
  have hsmx_104 : x_104.toInt = x_99.toInt := by rw [ex_104, ex_103, ex_99, ex_98]
  refine tk_ViP (As := [.int x_104]) (rest := []) (n := 1) hx hb hml hown hU hN hZ (s_X12_fault_k12 l (dC, dI) cI cL cZ cR cG cH Z kd L f hG o2 mo2 ko2 x_104) wd_669 wd_670 wd_671 wd_5 wd_672 (by decide +kernel) ⟨Nat.le_of_ble_eq_true rfl, Nat.le_of_ble_eq_true rfl⟩ hK hP hD hS mo2 hfo_77 12 rfl rfl rfl hl.1 rfl (Nat.le_of_ble_eq_true rfl) dL_law_279 ⟨Nat.le_of_ble_eq_true rfl, Nat.le_of_ble_eq_true rfl⟩ (fun x_105 f_106 H locs hw hP hD hS => ?_)
  obtain ⟨rfl, bx_105⟩ := hw
  refine lv_pop hx hb dL_law_282 rfl ?_
  refine lv_goto (tgt := 933) hx hb dL_law_283 (by decide) ?_
  exact kk f _ _ hG hP hD hS ⟨(fun d9 h9 => by rw [hfo_1] at h9; obtain rfl := Option.some.inj h9; exact hT0), (fun d9 h9 => by rw [hfo_1] at h9; obtain rfl := Option.some.inj h9; exact hT1), (fun r9 d9 h8 h9 => by rw [hfo_1] at h8; obtain rfl := Option.some.inj h8; rw [hfo_79] at h9; obtain rfl := Option.some.inj h9; exact hT2), hT3, hT4, hT5, hT6, (fun z9 h9 => by rw [hfo_77] at h9; obtain rfl := Option.some.inj h9; omega), (fun y9 z9 h8 h9 => by rw [hfo_1] at h8; obtain rfl := Option.some.inj h8; rw [hfo_77] at h9; obtain rfl := Option.some.inj h9; omega), (fun y9 z9 h8 h9 => by rw [hfo_1] at h8; obtain rfl := Option.some.inj h8; rw [hfo_77] at h9; obtain rfl := Option.some.inj h9; omega)⟩ ls (lv_sub hl [0, 1, 2, 3] rfl)
set_option maxHeartbeats 8000000 in
set_option maxRecDepth 100000 in
theorem law_c4 {p : Program} {l : Launch} {e : Env} {s : State} {m : MethodId} {below : List Frame} {meth : Method} {c : Code} {dC : Nat → ClassId} {dI : Nat → Nat → Nat} {cI cL cZ cR cG cH : ClassId} {Z : zT} {kd : Nat → Nat} {L : List Nat} {b Ln : Nat} {xs : Nat → Int32} (hLn : Ln ≤ 384) (C0 : lw_At p s m meth c b Ln xs) (hK : va_K (dC, dI) vwCl (TY6 cI cL cZ cR cG cH) s) (hN : nsW s) (hZ : zW Z L s) (hLs : ∀ q ∈ L, s.heap.size ≤ q) {o1 o2 : Nat} (mo1 : o1 ∈ L) (ko1 : kd o1 = 11) (mo2 : o2 ∈ L) (ko2 : kd o2 = 12) {f : Nat → va_E} (hG : GI (okc cI cL cZ cR cG cH L kd) kd L f) {H : Heap} {locs : List Loc} (hP : va_P (dC, dI) vwCl (va_pl L f) H) (hD : va_D (fun q => q ∈ L) (va_pl L f)) (hS : va_S (fun q => q ∈ L) s.heap H locs) (hI : lawI kd f o1 o2) {i0 : Int32} (bi0 : 0 ≤ i0.toInt ∧ i0.toInt ≤ 378) (hi0 : i0.toInt + 6 ≤ (Ln : Int))
    (kk : ∀ (f1 : Nat → va_E) (H1 : Heap) (locs1 : List Loc), GI (okc cI cL cZ cR cG cH L kd) kd L f1 → va_P (dC, dI) vwCl (va_pl L f1) H1 → va_D (fun q => q ∈ L) (va_pl L f1) → va_S (fun q => q ∈ L) s.heap H1 locs1 → lawI kd f1 o1 o2 → ∀ (ls : Array Slot), lv_has ls 4 [(3, .int i0), (0, .ref b), (1, .ref o1), (2, .ref o2)] → W p l e room_1 s m #[Value.ref b] below meth c H1 locs1 559 115398 (lw_Z below #[Value.ref b] s) (F0 m 933 ls []))
    {ls : Array Slot} (hl : lv_has ls 4 [(3, .int i0), (0, .ref b), (1, .ref o1), (2, .ref o2)]) : W p l e room_1 s m #[Value.ref b] below meth c H locs 559 115398 (lw_Z below #[Value.ref b] s) (F0 m 286 ls []) := by
  obtain ⟨hx, hb, hr, hml, hown0, hts, hX, hbl, hlocks, hgv⟩ := C0
  have hown : s.vm.findClass RL = some m.cls := hown0
  have hU : ∀ w ∈ wsU, w.before #[Value.ref b] s = true := fun w h => hts w (wsU_in w h)
  have hbA : ¬ (fun q => q ∈ L) b := fun h => absurd (hLs b h) (Nat.not_le.mpr hbl)
  obtain ⟨hxtr0, hxtr1, hxtr2, hxtr3, hxtr4, hxtr5, hxtr6, hx29, hxtp, hxim⟩ := hI
  have hrr11_2 : ∀ b, kd b = 11 → fldR (f b) 2 = fldR (f b) 2 := fun _ _ => rfl
  have hrr11_3 : ∀ b, kd b = 11 → fldR (f b) 3 = fldR (f b) 3 := fun _ _ => rfl
  have hrr11_5 : ∀ b, kd b = 11 → fldR (f b) 5 = fldR (f b) 5 := fun _ _ => rfl
  have hrr11_6 : ∀ b, kd b = 11 → fldR (f b) 6 = fldR (f b) 6 := fun _ _ => rfl
  have hrr11_7 : ∀ b, kd b = 11 → fldR (f b) 7 = fldR (f b) 7 := fun _ _ => rfl
  have hrr11_9 : ∀ b, kd b = 11 → fldR (f b) 9 = fldR (f b) 9 := fun _ _ => rfl
  have hrr11_10 : ∀ b, kd b = 11 → fldR (f b) 10 = fldR (f b) 10 := fun _ _ => rfl
  have hrr11_16 : ∀ b, kd b = 11 → fldR (f b) 16 = fldR (f b) 16 := fun _ _ => rfl
  have hrr3_0 : ∀ b, kd b = 3 → fldR (f b) 0 = fldR (f b) 0 := fun _ _ => rfl
  have hrr3_3 : ∀ b, kd b = 3 → fldR (f b) 3 = fldR (f b) 3 := fun _ _ => rfl
  have hrA12 : ∀ b, kd b = 12 → ∀ j, fldR (f b) j = fldR (f b) j := fun _ _ _ => rfl
  obtain ⟨a_2, v_3, a_4, a_5, a_6, a_7, a_8, a_9, v_10, a_11, a_12, a_13, v_14, v_15, a_16, v_17, a_18, a_19, v_20, hfo_1, ⟨ma_2, ka_2⟩, bv_3, ⟨ma_4, ka_4⟩, ⟨ma_5, ka_5⟩, ⟨ma_6, ka_6⟩, ⟨ma_7, ka_7⟩, ⟨ma_8, ka_8⟩, ⟨ma_9, ka_9⟩, bv_10, ⟨ma_11, ka_11⟩, ⟨ma_12, ka_12⟩, ⟨ma_13, ka_13⟩, bv_14, ⟨ma_16, ka_16⟩, bv_17, ⟨ma_18, ka_18⟩, ⟨ma_19, ka_19⟩⟩ := un_11 (hG _ mo1) ko1
  have bv_15 : ((-2147483648) ≤ v_15.toInt ∧ v_15.toInt ≤ 2147483647) := ⟨i32_lo _, i32_hi _⟩
  have bv_20 : ((-2147483648) ≤ v_20.toInt ∧ v_20.toInt ≤ 2147483647) := ⟨i32_lo _, i32_hi _⟩
  obtain ⟨a_21, a_22, a_23, v_24, a_25, v_26, v_27, v_28, v_29, v_30, v_31, v_32, v_33, v_34, v_35, a_36, a_37, a_38, a_39, a_40, a_41, a_42, a_43, v_44, v_45, v_46, v_47, v_48, a_49, v_50, a_51, a_52, v_53, v_54, a_55, v_56, a_57, a_58, v_59, v_60, a_61, a_62, a_63, v_64, a_65, a_66, a_67, a_68, a_69, a_70, a_71, a_72, a_73, v_74, v_75, a_76, hfo_77, fa_78⟩ := un12 (hG _ mo2) ko2
  have bv_24 : (0 ≤ v_24.toInt ∧ v_24.toInt ≤ 1) := fa12_3 fa_78
  have bv_26 : (0 ≤ v_26.toInt ∧ v_26.toInt ≤ 600) := fa12_5 fa_78
  have bv_50 : (0 ≤ v_50.toInt ∧ v_50.toInt ≤ 201) := fa12_29 fa_78
  have hT0 := hxtr0 a_5 (by rw [hfo_1]; rfl)
  have hT1 := hxtr1 a_8 (by rw [hfo_1]; rfl)
  obtain ⟨a_80, a_81, a_82, a_83, a_84, v_85, v_86, v_87, v_88, v_89, v_90, v_91, a_92, a_93, a_94, v_95, a_96, a_97, hfo_79, ⟨ma_80, ka_80⟩, ⟨ma_81, ka_81⟩, ⟨ma_82, ka_82⟩, ⟨ma_83, ka_83⟩, ⟨ma_84, ka_84⟩, bv_85, bv_86, bv_87, ⟨ma_92, ka_92⟩, ⟨ma_93, ka_93⟩, ⟨ma_94, ka_94⟩, bv_95, ⟨ma_96, ka_96⟩, ⟨ma_97, ka_97⟩⟩ := un_3 (hG _ ma_4) ka_4
  have bv_88 : ((-2147483648) ≤ v_88.toInt ∧ v_88.toInt ≤ 2147483647) := ⟨i32_lo _, i32_hi _⟩
  have bv_89 : ((-2147483648) ≤ v_89.toInt ∧ v_89.toInt ≤ 2147483647) := ⟨i32_lo _, i32_hi _⟩
  have bv_90 : ((-2147483648) ≤ v_90.toInt ∧ v_90.toInt ≤ 2147483647) := ⟨i32_lo _, i32_hi _⟩
  have bv_91 : ((-2147483648) ≤ v_91.toInt ∧ v_91.toInt ≤ 2147483647) := ⟨i32_lo _, i32_hi _⟩
  have hT2 := hxtr2 a_4 a_83 (by rw [hfo_1]; rfl) (by rw [hfo_79]; rfl)
  have hT3 := hxtr3
  have hT4 := hxtr4
  have hT5 := hxtr5
  have hT6 := hxtr6
  have h29 := hx29 v_50 (by rw [hfo_77]; rfl)
  have htp := hxtp v_3 v_26 (by rw [hfo_1]; rfl) (by rw [hfo_77]; rfl)
  have him := hxim v_10 v_24 (by rw [hfo_1]; rfl) (by rw [hfo_77]; rfl)
  refine lv_aload_n hx hb dL_law_286 rfl (lv_at hl 2 rfl) ?_
  refine lv_aload_n hx hb dL_law_287 rfl (lv_at hl 1 rfl) ?_
  refine lv_iload_n hx hb dL_law_288 rfl (lv_at hl 0 rfl) ?_
  refine lv_iconst (v := 1) hx hb dL_law_289 (by decide) ?_
  refine lv_iadd hx hb dL_law_290 ?_
  refine lv_topi (fun x_98 ex_98 => ?_)
  have hx_98 : x_98.toInt = i0.toInt + 1 := by rw [ex_98, ad_I (by rw [ti_1]; omega) (by rw [ti_1]; omega), ti_1]
  have bx_98 : (1 ≤ x_98.toInt ∧ x_98.toInt ≤ 379) := by constructor <;> omega
  refine va_sld hx hb hX hbl hbA hS (vp_in_iff.mpr (by constructor <;> omega)) dL_law_291 ?_
  refine lv_topi (fun x_99 ex_99 => ?_)
  have bx_99 : ((-2147483648) ≤ x_99.toInt ∧ x_99.toInt ≤ 2147483647) := ⟨i32_lo _, i32_hi _⟩
  refine tk_ViP (As := [.int x_99]) (rest := []) (n := 1) hx hb hml hown hU hN hZ (s_X11_use_k11_u l (dC, dI) cI cL cZ cR cG cH Z kd L f hG o1 mo1 ko1 x_99 hT3) wd_673 wd_674 wd_675 wd_2 wd_676 (by decide +kernel) ⟨Nat.le_of_ble_eq_true rfl, Nat.le_of_ble_eq_true rfl⟩ hK hP hD hS mo1 hfo_1 11 rfl rfl rfl hl.1 rfl (Nat.le_of_ble_eq_true rfl) dL_law_292 ⟨Nat.le_of_ble_eq_true rfl, Nat.le_of_ble_eq_true rfl⟩ (fun x_100 f_101 H locs hw hP hD hS => ?_)
  obtain ⟨hG, bx_100, hkc_102, hfc_103, hfc_104, hrc_105, hrc_106, hrc_107, hrc_108, hrc_109, hrc_110, hrc_111, hrc_112, hTc_113⟩ := hw
  have hfo_115 : f_101 o2 = .inr (12, [.ref a_21, .ref a_22, .ref a_23, .int v_24, .ref a_25, .int v_26, .int v_27, .int v_28, .int v_29, .int v_30, .int v_31, .int v_32, .int v_33, .int v_34, .int v_35, .ref a_36, .ref a_37, .ref a_38, .ref a_39, .ref a_40, .ref a_41, .ref a_42, .ref a_43, .int v_44, .int v_45, .int v_46, .int v_47, .int v_48, .ref a_49, .int v_50, .ref a_51, .ref a_52, .int v_53, .int v_54, .ref a_55, .int v_56, .ref a_57, .ref a_58, .int v_59, .int v_60, .ref a_61, .ref a_62, .ref a_63, .int v_64, .ref a_65, .ref a_66, .ref a_67, .ref a_68, .ref a_69, .ref a_70, .ref a_71, .ref a_72, .ref a_73, .int v_74, .int v_75, .ref a_76]) := by rw [hkc_102 o2 (by rw [ko2]; decide) (by rw [ko2]; decide)]; exact hfo_77
  have hfo_116 : f_101 a_4 = .inr (3, [.ref a_80, .ref a_81, .ref a_82, .ref a_83, .ref a_84, .int v_85, .int v_86, .int v_87, .int v_88, .int v_89, .int v_90, .int v_91, .ref a_92, .ref a_93, .ref a_94, .int v_95, .ref a_96, .ref a_97]) := by rw [hkc_102 a_4 (by rw [ka_4]; decide) (by rw [ka_4]; decide)]; exact hfo_79
  have hrr11_2 : ∀ b, kd b = 11 → fldR (f_101 b) 2 = fldR (f b) 2 := fun b kb => (hrc_105 b kb).trans (hrr11_2 b kb)
  have hrr11_3 : ∀ b, kd b = 11 → fldR (f_101 b) 3 = fldR (f b) 3 := fun b kb => (hrc_106 b kb).trans (hrr11_3 b kb)
  have hrr11_5 : ∀ b, kd b = 11 → fldR (f_101 b) 5 = fldR (f b) 5 := fun b kb => (hrc_107 b kb).trans (hrr11_5 b kb)
  have hrr11_6 : ∀ b, kd b = 11 → fldR (f_101 b) 6 = fldR (f b) 6 := fun b kb => (hrc_108 b kb).trans (hrr11_6 b kb)
  have hrr11_7 : ∀ b, kd b = 11 → fldR (f_101 b) 7 = fldR (f b) 7 := fun b kb => (hrc_109 b kb).trans (hrr11_7 b kb)
  have hrr11_9 : ∀ b, kd b = 11 → fldR (f_101 b) 9 = fldR (f b) 9 := fun b kb => (hrc_110 b kb).trans (hrr11_9 b kb)
  have hrr11_10 : ∀ b, kd b = 11 → fldR (f_101 b) 10 = fldR (f b) 10 := fun b kb => (hrc_111 b kb).trans (hrr11_10 b kb)
  have hrr11_16 : ∀ b, kd b = 11 → fldR (f_101 b) 16 = fldR (f b) 16 := fun b kb => (hrc_112 b kb).trans (hrr11_16 b kb)
  have hrr3_0 : ∀ b, kd b = 3 → fldR (f_101 b) 0 = fldR (f b) 0 := fun b kb => (congrArg (fun x => fldR x 0) (hkc_102 b (by rw [kb]; decide) (by rw [kb]; decide))).trans (hrr3_0 b kb)
  have hrr3_3 : ∀ b, kd b = 3 → fldR (f_101 b) 3 = fldR (f b) 3 := fun b kb => (congrArg (fun x => fldR x 3) (hkc_102 b (by rw [kb]; decide) (by rw [kb]; decide))).trans (hrr3_3 b kb)
  have hrA12 : ∀ b, kd b = 12 → ∀ j, fldR (f_101 b) j = fldR (f b) j := fun b kb j => (congrArg (fun x => fldR x j) (hkc_102 b (by rw [kb]; decide) (by rw [kb]; decide))).trans (hrA12 b kb j)
  have hT0 : trel kd 7 508 510 515 4 f_101 a_5 := hT0.keep (fun b q => hkc_102 b (by rw [q]; decide) (by rw [q]; decide)) (fun b q => hkc_102 b (by rw [q]; decide) (by rw [q]; decide)) (fun b q => hkc_102 b (by rw [q]; decide) (by rw [q]; decide)) (fun b q => hkc_102 b (by rw [q]; decide) (by rw [q]; decide)) (fun b q => congrArg (fun x => fldI x 1) (hkc_102 b (by rw [q]; decide) (by rw [q]; decide)))
  have hT1 : trel kd 107 549 551 556 104 f_101 a_8 := hT1.keep (fun b q => hkc_102 b (by rw [q]; decide) (by rw [q]; decide)) (fun b q => hkc_102 b (by rw [q]; decide) (by rw [q]; decide)) (fun b q => hkc_102 b (by rw [q]; decide) (by rw [q]; decide)) (fun b q => hkc_102 b (by rw [q]; decide) (by rw [q]; decide)) (fun b q => congrArg (fun x => fldI x 1) (hkc_102 b (by rw [q]; decide) (by rw [q]; decide)))
  have hT2 : drel kd 1 521 522 f_101 a_83 := hT2.keep (fun b q => congrArg (fun x => fldI x 5) (hkc_102 b (by rw [q]; decide) (by rw [q]; decide))) (fun b q => congrArg (fun x => fldR x 0) (hkc_102 b (by rw [q]; decide) (by rw [q]; decide))) (fun b q => congrArg (fun x => fldR x 1) (hkc_102 b (by rw [q]; decide) (by rw [q]; decide))) (fun b q => hkc_102 b (by rw [q]; decide) (by rw [q]; decide)) (fun b q => hkc_102 b (by rw [q]; decide) (by rw [q]; decide))
  have hT4 : urel kd 7 6 106 107 f_101 o1 := hT4.keep (fun b q => hrc_109 b q) (fun b q => hrc_108 b q) (fun b q => congrArg (fun x => fldI x 0) (hkc_102 b (by rw [q]; decide) (by rw [q]; decide))) (fun b q => congrArg (fun x => fldI x 12) (hkc_102 b (by rw [q]; decide) (by rw [q]; decide)))
  have hT5 : alrel kd f_101 o1 := hT5.keep (fun b q => hrc_105 b q) (fun b q => hrc_106 b q) (fun b q => congrArg (fun x => fldR x 0) (hkc_102 b (by rw [q]; decide) (by rw [q]; decide)))
  have hT6 : srel kd 592 f_101 o2 := hT6.keep (fun b q => congrArg (fun x => fldR x 30) (hkc_102 b (by rw [q]; decide) (by rw [q]; decide))) (fun b q => congrArg (fun x => fldI x 32) (hkc_102 b (by rw [q]; decide) (by rw [q]; decide))) (fun b q => congrArg (fun x => fldI x 33) (hkc_102 b (by rw [q]; decide) (by rw [q]; decide))) (fun b q => hkc_102 b (by rw [q]; decide) (by rw [q]; decide))
  obtain ⟨a_118, v_119, a_120, a_121, a_122, a_123, a_124, a_125, v_126, a_127, a_128, a_129, v_130, v_131, a_132, v_133, a_134, a_135, v_136, hfo_117, ⟨ma_118, ka_118⟩, bv_119, ⟨ma_120, ka_120⟩, ⟨ma_121, ka_121⟩, ⟨ma_122, ka_122⟩, ⟨ma_123, ka_123⟩, ⟨ma_124, ka_124⟩, ⟨ma_125, ka_125⟩, bv_126, ⟨ma_127, ka_127⟩, ⟨ma_128, ka_128⟩, ⟨ma_129, ka_129⟩, bv_130, ⟨ma_132, ka_132⟩, bv_133, ⟨ma_134, ka_134⟩, ⟨ma_135, ka_135⟩⟩ := un_11 (hG _ mo1) ko1
  have bv_131 : ((-2147483648) ≤ v_131.toInt ∧ v_131.toInt ≤ 2147483647) := ⟨i32_lo _, i32_hi _⟩
  have bv_136 : ((-2147483648) ≤ v_136.toInt ∧ v_136.toInt ≤ 2147483647) := ⟨i32_lo _, i32_hi _⟩
  obtain rfl : a_4 = a_120 := by have hk9 := hrr11_2 o1 ko1; rw [hfo_117, hfo_1] at hk9; exact (Option.some.inj hk9).symm
  obtain rfl : a_5 = a_121 := by have hk9 := hrr11_3 o1 ko1; rw [hfo_117, hfo_1] at hk9; exact (Option.some.inj hk9).symm
  obtain rfl : a_7 = a_123 := by have hk9 := hrr11_5 o1 ko1; rw [hfo_117, hfo_1] at hk9; exact (Option.some.inj hk9).symm
  obtain rfl : a_8 = a_124 := by have hk9 := hrr11_6 o1 ko1; rw [hfo_117, hfo_1] at hk9; exact (Option.some.inj hk9).symm
  obtain rfl : a_9 = a_125 := by have hk9 := hrr11_7 o1 ko1; rw [hfo_117, hfo_1] at hk9; exact (Option.some.inj hk9).symm
  obtain rfl : a_11 = a_127 := by have hk9 := hrr11_9 o1 ko1; rw [hfo_117, hfo_1] at hk9; exact (Option.some.inj hk9).symm
  obtain rfl : a_12 = a_128 := by have hk9 := hrr11_10 o1 ko1; rw [hfo_117, hfo_1] at hk9; exact (Option.some.inj hk9).symm
  obtain rfl : a_18 = a_134 := by have hk9 := hrr11_16 o1 ko1; rw [hfo_117, hfo_1] at hk9; exact (Option.some.inj hk9).symm
  obtain rfl : v_3 = v_119 := by have hk9 := hfc_103 o1 ko1; rw [hfo_117, hfo_1] at hk9; exact (Option.some.inj hk9).symm
  obtain rfl : v_10 = v_126 := by have hk9 := hfc_104 o1 ko1; rw [hfo_117, hfo_1] at hk9; exact (Option.some.inj hk9).symm
  refine lv_pop hx hb dL_law_295 rfl ?_
  refine lv_aload_n hx hb dL_law_296 rfl (lv_at hl 3 rfl) ?_
  refine lv_aload_n hx hb dL_law_297 rfl (lv_at hl 1 rfl) ?_
  refine lv_iload_n hx hb dL_law_298 rfl (lv_at hl 0 rfl) ?_
  refine lv_iconst (v := 1) hx hb dL_law_299 (by decide) ?_
  refine lv_iadd hx hb dL_law_300 ?_
  refine lv_topi (fun x_137 ex_137 => ?_)
  have hx_137 : x_137.toInt = i0.toInt + 1 := by rw [ex_137, ad_I (by rw [ti_1]; omega) (by rw [ti_1]; omega), ti_1]
  have bx_137 : (1 ≤ x_137.toInt ∧ x_137.toInt ≤ 379) := by constructor <;> omega
  refine va_sld hx hb hX hbl hbA hS (vp_in_iff.mpr (by constructor <;> omega)) dL_law_301 ?_
  refine lv_topi (fun x_138 ex_138 => ?_)
  have bx_138 : ((-2147483648) ≤ x_138.toInt ∧ x_138.toInt ≤ 2147483647) := ⟨i32_lo _, i32_hi _⟩
  have hsmx_138 : x_138.toInt = x_99.toInt := by rw [ex_138, ex_137, ex_99, ex_98]
  refine tk_ViP (As := [.int x_138]) (rest := []) (n := 1) hx hb hml hown hU hN hZ (s_X12_use_k12 l (dC, dI) cI cL cZ cR cG cH Z kd L f_101 hG o2 mo2 ko2 x_138) wd_682 wd_683 wd_684 wd_5 wd_685 (by decide +kernel) ⟨Nat.le_of_ble_eq_true rfl, Nat.le_of_ble_eq_true rfl⟩ hK hP hD hS mo2 hfo_115 12 rfl rfl rfl hl.1 rfl (Nat.le_of_ble_eq_true rfl) dL_law_302 ⟨Nat.le_of_ble_eq_true rfl, Nat.le_of_ble_eq_true rfl⟩ (fun x_139 f_140 H locs hw hP hD hS => ?_)
  obtain ⟨hG, bx_139, hkc_141⟩ := hw
  have hfo_143 : f_140 o2 = .inr (12, [.ref a_21, .ref a_22, .ref a_23, .int v_24, .ref a_25, .int v_26, .int v_27, .int v_28, .int v_29, .int v_30, .int v_31, .int v_32, .int v_33, .int v_34, .int v_35, .ref a_36, .ref a_37, .ref a_38, .ref a_39, .ref a_40, .ref a_41, .ref a_42, .ref a_43, .int v_44, .int v_45, .int v_46, .int v_47, .int v_48, .ref a_49, .int v_50, .ref a_51, .ref a_52, .int v_53, .int v_54, .ref a_55, .int v_56, .ref a_57, .ref a_58, .int v_59, .int v_60, .ref a_61, .ref a_62, .ref a_63, .int v_64, .ref a_65, .ref a_66, .ref a_67, .ref a_68, .ref a_69, .ref a_70, .ref a_71, .ref a_72, .ref a_73, .int v_74, .int v_75, .ref a_76]) := by rw [hkc_141 o2 (by rw [ko2]; decide)]; exact hfo_115
  have hfo_144 : f_140 a_4 = .inr (3, [.ref a_80, .ref a_81, .ref a_82, .ref a_83, .ref a_84, .int v_85, .int v_86, .int v_87, .int v_88, .int v_89, .int v_90, .int v_91, .ref a_92, .ref a_93, .ref a_94, .int v_95, .ref a_96, .ref a_97]) := by rw [hkc_141 a_4 (by rw [ka_4]; decide)]; exact hfo_116
  have hfo_145 : f_140 o1 = .inr (11, [.ref a_118, .int v_3, .ref a_4, .ref a_5, .ref a_122, .ref a_7, .ref a_8, .ref a_9, .int v_10, .ref a_11, .ref a_12, .ref a_129, .int v_130, .int v_131, .ref a_132, .int v_133, .ref a_18, .ref a_135, .int v_136]) := by rw [hkc_141 o1 (by rw [ko1]; decide)]; exact hfo_117
  have hrr11_2 : ∀ b, kd b = 11 → fldR (f_140 b) 2 = fldR (f b) 2 := fun b kb => (congrArg (fun x => fldR x 2) (hkc_141 b (by rw [kb]; decide))).trans (hrr11_2 b kb)
  have hrr11_3 : ∀ b, kd b = 11 → fldR (f_140 b) 3 = fldR (f b) 3 := fun b kb => (congrArg (fun x => fldR x 3) (hkc_141 b (by rw [kb]; decide))).trans (hrr11_3 b kb)
  have hrr11_5 : ∀ b, kd b = 11 → fldR (f_140 b) 5 = fldR (f b) 5 := fun b kb => (congrArg (fun x => fldR x 5) (hkc_141 b (by rw [kb]; decide))).trans (hrr11_5 b kb)
  have hrr11_6 : ∀ b, kd b = 11 → fldR (f_140 b) 6 = fldR (f b) 6 := fun b kb => (congrArg (fun x => fldR x 6) (hkc_141 b (by rw [kb]; decide))).trans (hrr11_6 b kb)
  have hrr11_7 : ∀ b, kd b = 11 → fldR (f_140 b) 7 = fldR (f b) 7 := fun b kb => (congrArg (fun x => fldR x 7) (hkc_141 b (by rw [kb]; decide))).trans (hrr11_7 b kb)
  have hrr11_9 : ∀ b, kd b = 11 → fldR (f_140 b) 9 = fldR (f b) 9 := fun b kb => (congrArg (fun x => fldR x 9) (hkc_141 b (by rw [kb]; decide))).trans (hrr11_9 b kb)
  have hrr11_10 : ∀ b, kd b = 11 → fldR (f_140 b) 10 = fldR (f b) 10 := fun b kb => (congrArg (fun x => fldR x 10) (hkc_141 b (by rw [kb]; decide))).trans (hrr11_10 b kb)
  have hrr11_16 : ∀ b, kd b = 11 → fldR (f_140 b) 16 = fldR (f b) 16 := fun b kb => (congrArg (fun x => fldR x 16) (hkc_141 b (by rw [kb]; decide))).trans (hrr11_16 b kb)
  have hrr3_0 : ∀ b, kd b = 3 → fldR (f_140 b) 0 = fldR (f b) 0 := fun b kb => (congrArg (fun x => fldR x 0) (hkc_141 b (by rw [kb]; decide))).trans (hrr3_0 b kb)
  have hrr3_3 : ∀ b, kd b = 3 → fldR (f_140 b) 3 = fldR (f b) 3 := fun b kb => (congrArg (fun x => fldR x 3) (hkc_141 b (by rw [kb]; decide))).trans (hrr3_3 b kb)
  have hrA12 : ∀ b, kd b = 12 → ∀ j, fldR (f_140 b) j = fldR (f b) j := fun b kb j => (congrArg (fun x => fldR x j) (hkc_141 b (by rw [kb]; decide))).trans (hrA12 b kb j)
  have hT0 : trel kd 7 508 510 515 4 f_140 a_5 := hT0.keep (fun b q => hkc_141 b (by rw [q]; decide)) (fun b q => hkc_141 b (by rw [q]; decide)) (fun b q => hkc_141 b (by rw [q]; decide)) (fun b q => hkc_141 b (by rw [q]; decide)) (fun b q => congrArg (fun x => fldI x 1) (hkc_141 b (by rw [q]; decide)))
  have hT1 : trel kd 107 549 551 556 104 f_140 a_8 := hT1.keep (fun b q => hkc_141 b (by rw [q]; decide)) (fun b q => hkc_141 b (by rw [q]; decide)) (fun b q => hkc_141 b (by rw [q]; decide)) (fun b q => hkc_141 b (by rw [q]; decide)) (fun b q => congrArg (fun x => fldI x 1) (hkc_141 b (by rw [q]; decide)))
  have hT2 : drel kd 1 521 522 f_140 a_83 := hT2.keep (fun b q => congrArg (fun x => fldI x 5) (hkc_141 b (by rw [q]; decide))) (fun b q => congrArg (fun x => fldR x 0) (hkc_141 b (by rw [q]; decide))) (fun b q => congrArg (fun x => fldR x 1) (hkc_141 b (by rw [q]; decide))) (fun b q => hkc_141 b (by rw [q]; decide)) (fun b q => hkc_141 b (by rw [q]; decide))
  have hT4 : urel kd 7 6 106 107 f_140 o1 := hT4.keep (fun b q => congrArg (fun x => fldR x 7) (hkc_141 b (by rw [q]; decide))) (fun b q => congrArg (fun x => fldR x 6) (hkc_141 b (by rw [q]; decide))) (fun b q => congrArg (fun x => fldI x 0) (hkc_141 b (by rw [q]; decide))) (fun b q => congrArg (fun x => fldI x 12) (hkc_141 b (by rw [q]; decide)))
  have hT5 : alrel kd f_140 o1 := hT5.keep (fun b q => congrArg (fun x => fldR x 2) (hkc_141 b (by rw [q]; decide))) (fun b q => congrArg (fun x => fldR x 3) (hkc_141 b (by rw [q]; decide))) (fun b q => congrArg (fun x => fldR x 0) (hkc_141 b (by rw [q]; decide)))
  have hT6 : srel kd 592 f_140 o2 := hT6.keep (fun b q => congrArg (fun x => fldR x 30) (hkc_141 b (by rw [q]; decide))) (fun b q => congrArg (fun x => fldI x 32) (hkc_141 b (by rw [q]; decide))) (fun b q => congrArg (fun x => fldI x 33) (hkc_141 b (by rw [q]; decide))) (fun b q => hkc_141 b (by rw [q]; decide))
  have hTc_113 : urel kd 5 3 6 7 f_140 o1 := hTc_113.keep (fun b q => congrArg (fun x => fldR x 5) (hkc_141 b (by rw [q]; decide))) (fun b q => congrArg (fun x => fldR x 3) (hkc_141 b (by rw [q]; decide))) (fun b q => congrArg (fun x => fldI x 0) (hkc_141 b (by rw [q]; decide))) (fun b q => congrArg (fun x => fldI x 12) (hkc_141 b (by rw [q]; decide)))
  refine lv_pop hx hb dL_law_305 rfl ?_
  refine lv_goto (tgt := 933) hx hb dL_law_306 (by decide) ?_
  exact kk f_140 _ _ hG hP hD hS ⟨(fun d9 h9 => by rw [hfo_145] at h9; obtain rfl := Option.some.inj h9; exact hT0), (fun d9 h9 => by rw [hfo_145] at h9; obtain rfl := Option.some.inj h9; exact hT1), (fun r9 d9 h8 h9 => by rw [hfo_145] at h8; obtain rfl := Option.some.inj h8; rw [hfo_144] at h9; obtain rfl := Option.some.inj h9; exact hT2), hTc_113, hT4, hT5, hT6, (fun z9 h9 => by rw [hfo_143] at h9; obtain rfl := Option.some.inj h9; omega), (fun y9 z9 h8 h9 => by rw [hfo_145] at h8; obtain rfl := Option.some.inj h8; rw [hfo_143] at h9; obtain rfl := Option.some.inj h9; omega), (fun y9 z9 h8 h9 => by rw [hfo_145] at h8; obtain rfl := Option.some.inj h8; rw [hfo_143] at h9; obtain rfl := Option.some.inj h9; omega)⟩ ls (lv_sub hl [0, 1, 2, 3] rfl)
set_option maxHeartbeats 8000000 in
set_option maxRecDepth 100000 in
theorem law_c5 {p : Program} {l : Launch} {e : Env} {s : State} {m : MethodId} {below : List Frame} {meth : Method} {c : Code} {dC : Nat → ClassId} {dI : Nat → Nat → Nat} {cI cL cZ cR cG cH : ClassId} {Z : zT} {kd : Nat → Nat} {L : List Nat} {b Ln : Nat} {xs : Nat → Int32} (hLn : Ln ≤ 384) (C0 : lw_At p s m meth c b Ln xs) (hK : va_K (dC, dI) vwCl (TY6 cI cL cZ cR cG cH) s) (hN : nsW s) (hZ : zW Z L s) (hLs : ∀ q ∈ L, s.heap.size ≤ q) {o1 o2 : Nat} (mo1 : o1 ∈ L) (ko1 : kd o1 = 11) (mo2 : o2 ∈ L) (ko2 : kd o2 = 12) {f : Nat → va_E} (hG : GI (okc cI cL cZ cR cG cH L kd) kd L f) {H : Heap} {locs : List Loc} (hP : va_P (dC, dI) vwCl (va_pl L f) H) (hD : va_D (fun q => q ∈ L) (va_pl L f)) (hS : va_S (fun q => q ∈ L) s.heap H locs) (hI : lawI kd f o1 o2) {i0 : Int32} (bi0 : 0 ≤ i0.toInt ∧ i0.toInt ≤ 378) (hi0 : i0.toInt + 6 ≤ (Ln : Int))
    (kk : ∀ (f1 : Nat → va_E) (H1 : Heap) (locs1 : List Loc), GI (okc cI cL cZ cR cG cH L kd) kd L f1 → va_P (dC, dI) vwCl (va_pl L f1) H1 → va_D (fun q => q ∈ L) (va_pl L f1) → va_S (fun q => q ∈ L) s.heap H1 locs1 → lawI kd f1 o1 o2 → ∀ (ls : Array Slot), lv_has ls 4 [(3, .int i0), (0, .ref b), (1, .ref o1), (2, .ref o2)] → W p l e room_1 s m #[Value.ref b] below meth c H1 locs1 559 115398 (lw_Z below #[Value.ref b] s) (F0 m 933 ls []))
    {ls : Array Slot} (hl : lv_has ls 4 [(3, .int i0), (0, .ref b), (1, .ref o1), (2, .ref o2)]) : W p l e room_1 s m #[Value.ref b] below meth c H locs 559 115398 (lw_Z below #[Value.ref b] s) (F0 m 309 ls []) := by
  obtain ⟨hx, hb, hr, hml, hown0, hts, hX, hbl, hlocks, hgv⟩ := C0
  have hown : s.vm.findClass RL = some m.cls := hown0
  have hU : ∀ w ∈ wsU, w.before #[Value.ref b] s = true := fun w h => hts w (wsU_in w h)
  have hbA : ¬ (fun q => q ∈ L) b := fun h => absurd (hLs b h) (Nat.not_le.mpr hbl)
  obtain ⟨hxtr0, hxtr1, hxtr2, hxtr3, hxtr4, hxtr5, hxtr6, hx29, hxtp, hxim⟩ := hI
  have hrr11_2 : ∀ b, kd b = 11 → fldR (f b) 2 = fldR (f b) 2 := fun _ _ => rfl
  have hrr11_3 : ∀ b, kd b = 11 → fldR (f b) 3 = fldR (f b) 3 := fun _ _ => rfl
  have hrr11_5 : ∀ b, kd b = 11 → fldR (f b) 5 = fldR (f b) 5 := fun _ _ => rfl
  have hrr11_6 : ∀ b, kd b = 11 → fldR (f b) 6 = fldR (f b) 6 := fun _ _ => rfl
  have hrr11_7 : ∀ b, kd b = 11 → fldR (f b) 7 = fldR (f b) 7 := fun _ _ => rfl
  have hrr11_9 : ∀ b, kd b = 11 → fldR (f b) 9 = fldR (f b) 9 := fun _ _ => rfl
  have hrr11_10 : ∀ b, kd b = 11 → fldR (f b) 10 = fldR (f b) 10 := fun _ _ => rfl
  have hrr11_16 : ∀ b, kd b = 11 → fldR (f b) 16 = fldR (f b) 16 := fun _ _ => rfl
  have hrr3_0 : ∀ b, kd b = 3 → fldR (f b) 0 = fldR (f b) 0 := fun _ _ => rfl
  have hrr3_3 : ∀ b, kd b = 3 → fldR (f b) 3 = fldR (f b) 3 := fun _ _ => rfl
  have hrA12 : ∀ b, kd b = 12 → ∀ j, fldR (f b) j = fldR (f b) j := fun _ _ _ => rfl
  obtain ⟨a_2, v_3, a_4, a_5, a_6, a_7, a_8, a_9, v_10, a_11, a_12, a_13, v_14, v_15, a_16, v_17, a_18, a_19, v_20, hfo_1, ⟨ma_2, ka_2⟩, bv_3, ⟨ma_4, ka_4⟩, ⟨ma_5, ka_5⟩, ⟨ma_6, ka_6⟩, ⟨ma_7, ka_7⟩, ⟨ma_8, ka_8⟩, ⟨ma_9, ka_9⟩, bv_10, ⟨ma_11, ka_11⟩, ⟨ma_12, ka_12⟩, ⟨ma_13, ka_13⟩, bv_14, ⟨ma_16, ka_16⟩, bv_17, ⟨ma_18, ka_18⟩, ⟨ma_19, ka_19⟩⟩ := un_11 (hG _ mo1) ko1
  have bv_15 : ((-2147483648) ≤ v_15.toInt ∧ v_15.toInt ≤ 2147483647) := ⟨i32_lo _, i32_hi _⟩
  have bv_20 : ((-2147483648) ≤ v_20.toInt ∧ v_20.toInt ≤ 2147483647) := ⟨i32_lo _, i32_hi _⟩
  obtain ⟨a_21, a_22, a_23, v_24, a_25, v_26, v_27, v_28, v_29, v_30, v_31, v_32, v_33, v_34, v_35, a_36, a_37, a_38, a_39, a_40, a_41, a_42, a_43, v_44, v_45, v_46, v_47, v_48, a_49, v_50, a_51, a_52, v_53, v_54, a_55, v_56, a_57, a_58, v_59, v_60, a_61, a_62, a_63, v_64, a_65, a_66, a_67, a_68, a_69, a_70, a_71, a_72, a_73, v_74, v_75, a_76, hfo_77, fa_78⟩ := un12 (hG _ mo2) ko2
  have bv_24 : (0 ≤ v_24.toInt ∧ v_24.toInt ≤ 1) := fa12_3 fa_78
  have bv_26 : (0 ≤ v_26.toInt ∧ v_26.toInt ≤ 600) := fa12_5 fa_78
  have bv_50 : (0 ≤ v_50.toInt ∧ v_50.toInt ≤ 201) := fa12_29 fa_78
  have hT0 := hxtr0 a_5 (by rw [hfo_1]; rfl)
  have hT1 := hxtr1 a_8 (by rw [hfo_1]; rfl)
  obtain ⟨a_80, a_81, a_82, a_83, a_84, v_85, v_86, v_87, v_88, v_89, v_90, v_91, a_92, a_93, a_94, v_95, a_96, a_97, hfo_79, ⟨ma_80, ka_80⟩, ⟨ma_81, ka_81⟩, ⟨ma_82, ka_82⟩, ⟨ma_83, ka_83⟩, ⟨ma_84, ka_84⟩, bv_85, bv_86, bv_87, ⟨ma_92, ka_92⟩, ⟨ma_93, ka_93⟩, ⟨ma_94, ka_94⟩, bv_95, ⟨ma_96, ka_96⟩, ⟨ma_97, ka_97⟩⟩ := un_3 (hG _ ma_4) ka_4
  have bv_88 : ((-2147483648) ≤ v_88.toInt ∧ v_88.toInt ≤ 2147483647) := ⟨i32_lo _, i32_hi _⟩
  have bv_89 : ((-2147483648) ≤ v_89.toInt ∧ v_89.toInt ≤ 2147483647) := ⟨i32_lo _, i32_hi _⟩
  have bv_90 : ((-2147483648) ≤ v_90.toInt ∧ v_90.toInt ≤ 2147483647) := ⟨i32_lo _, i32_hi _⟩
  have bv_91 : ((-2147483648) ≤ v_91.toInt ∧ v_91.toInt ≤ 2147483647) := ⟨i32_lo _, i32_hi _⟩
  have hT2 := hxtr2 a_4 a_83 (by rw [hfo_1]; rfl) (by rw [hfo_79]; rfl)
  have hT3 := hxtr3
  have hT4 := hxtr4
  have hT5 := hxtr5
  have hT6 := hxtr6
  have h29 := hx29 v_50 (by rw [hfo_77]; rfl)
  have htp := hxtp v_3 v_26 (by rw [hfo_1]; rfl) (by rw [hfo_77]; rfl)
  have him := hxim v_10 v_24 (by rw [hfo_1]; rfl) (by rw [hfo_77]; rfl)
  refine lv_aload_n hx hb dL_law_309 rfl (lv_at hl 2 rfl) ?_
  refine lv_aload_n hx hb dL_law_310 rfl (lv_at hl 1 rfl) ?_
  refine lv_iload_n hx hb dL_law_311 rfl (lv_at hl 0 rfl) ?_
  refine lv_iconst (v := 1) hx hb dL_law_312 (by decide) ?_
  refine lv_iadd hx hb dL_law_313 ?_
  refine lv_topi (fun x_98 ex_98 => ?_)
  have hx_98 : x_98.toInt = i0.toInt + 1 := by rw [ex_98, ad_I (by rw [ti_1]; omega) (by rw [ti_1]; omega), ti_1]
  have bx_98 : (1 ≤ x_98.toInt ∧ x_98.toInt ≤ 379) := by constructor <;> omega
  refine va_sld hx hb hX hbl hbA hS (vp_in_iff.mpr (by constructor <;> omega)) dL_law_314 ?_
  refine lv_topi (fun x_99 ex_99 => ?_)
  have bx_99 : ((-2147483648) ≤ x_99.toInt ∧ x_99.toInt ≤ 2147483647) := ⟨i32_lo _, i32_hi _⟩
  refine tk_ViP (As := [.int x_99]) (rest := []) (n := 1) hx hb hml hown hU hN hZ (s_X11_slack_k11_v l (dC, dI) cI cL cZ cR cG cH Z kd L f hG o1 mo1 ko1 x_99) wd_690 wd_691 wd_692 wd_2 wd_693 (by decide +kernel) ⟨Nat.le_of_ble_eq_true rfl, Nat.le_of_ble_eq_true rfl⟩ hK hP hD hS mo1 hfo_1 11 rfl rfl rfl hl.1 rfl (Nat.le_of_ble_eq_true rfl) dL_law_315 ⟨Nat.le_of_ble_eq_true rfl, Nat.le_of_ble_eq_true rfl⟩ (fun x_100 f_101 H locs hw hP hD hS => ?_)
  obtain ⟨hG, bx_100, relx_100, hkc_102, hfc_103, hfc_104, hfc_105, hrc_106, hrc_107, hrc_108, hrc_109, hrc_110, hrc_111, hrc_112, hrc_113⟩ := hw
  have hfo_115 : f_101 o2 = .inr (12, [.ref a_21, .ref a_22, .ref a_23, .int v_24, .ref a_25, .int v_26, .int v_27, .int v_28, .int v_29, .int v_30, .int v_31, .int v_32, .int v_33, .int v_34, .int v_35, .ref a_36, .ref a_37, .ref a_38, .ref a_39, .ref a_40, .ref a_41, .ref a_42, .ref a_43, .int v_44, .int v_45, .int v_46, .int v_47, .int v_48, .ref a_49, .int v_50, .ref a_51, .ref a_52, .int v_53, .int v_54, .ref a_55, .int v_56, .ref a_57, .ref a_58, .int v_59, .int v_60, .ref a_61, .ref a_62, .ref a_63, .int v_64, .ref a_65, .ref a_66, .ref a_67, .ref a_68, .ref a_69, .ref a_70, .ref a_71, .ref a_72, .ref a_73, .int v_74, .int v_75, .ref a_76]) := by rw [hkc_102 o2 (by rw [ko2]; decide) (by rw [ko2]; decide)]; exact hfo_77
  have hfo_116 : f_101 a_4 = .inr (3, [.ref a_80, .ref a_81, .ref a_82, .ref a_83, .ref a_84, .int v_85, .int v_86, .int v_87, .int v_88, .int v_89, .int v_90, .int v_91, .ref a_92, .ref a_93, .ref a_94, .int v_95, .ref a_96, .ref a_97]) := by rw [hkc_102 a_4 (by rw [ka_4]; decide) (by rw [ka_4]; decide)]; exact hfo_79
  have hrr11_2 : ∀ b, kd b = 11 → fldR (f_101 b) 2 = fldR (f b) 2 := fun b kb => (hrc_106 b kb).trans (hrr11_2 b kb)
  have hrr11_3 : ∀ b, kd b = 11 → fldR (f_101 b) 3 = fldR (f b) 3 := fun b kb => (hrc_107 b kb).trans (hrr11_3 b kb)
  have hrr11_5 : ∀ b, kd b = 11 → fldR (f_101 b) 5 = fldR (f b) 5 := fun b kb => (hrc_108 b kb).trans (hrr11_5 b kb)
  have hrr11_6 : ∀ b, kd b = 11 → fldR (f_101 b) 6 = fldR (f b) 6 := fun b kb => (hrc_109 b kb).trans (hrr11_6 b kb)
  have hrr11_7 : ∀ b, kd b = 11 → fldR (f_101 b) 7 = fldR (f b) 7 := fun b kb => (hrc_110 b kb).trans (hrr11_7 b kb)
  have hrr11_9 : ∀ b, kd b = 11 → fldR (f_101 b) 9 = fldR (f b) 9 := fun b kb => (hrc_111 b kb).trans (hrr11_9 b kb)
  have hrr11_10 : ∀ b, kd b = 11 → fldR (f_101 b) 10 = fldR (f b) 10 := fun b kb => (hrc_112 b kb).trans (hrr11_10 b kb)
  have hrr11_16 : ∀ b, kd b = 11 → fldR (f_101 b) 16 = fldR (f b) 16 := fun b kb => (hrc_113 b kb).trans (hrr11_16 b kb)
  have hrr3_0 : ∀ b, kd b = 3 → fldR (f_101 b) 0 = fldR (f b) 0 := fun b kb => (congrArg (fun x => fldR x 0) (hkc_102 b (by rw [kb]; decide) (by rw [kb]; decide))).trans (hrr3_0 b kb)
  have hrr3_3 : ∀ b, kd b = 3 → fldR (f_101 b) 3 = fldR (f b) 3 := fun b kb => (congrArg (fun x => fldR x 3) (hkc_102 b (by rw [kb]; decide) (by rw [kb]; decide))).trans (hrr3_3 b kb)
  have hrA12 : ∀ b, kd b = 12 → ∀ j, fldR (f_101 b) j = fldR (f b) j := fun b kb j => (congrArg (fun x => fldR x j) (hkc_102 b (by rw [kb]; decide) (by rw [kb]; decide))).trans (hrA12 b kb j)
  have hT0 : trel kd 7 508 510 515 4 f_101 a_5 := hT0.keep (fun b q => hkc_102 b (by rw [q]; decide) (by rw [q]; decide)) (fun b q => hkc_102 b (by rw [q]; decide) (by rw [q]; decide)) (fun b q => hkc_102 b (by rw [q]; decide) (by rw [q]; decide)) (fun b q => hkc_102 b (by rw [q]; decide) (by rw [q]; decide)) (fun b q => congrArg (fun x => fldI x 1) (hkc_102 b (by rw [q]; decide) (by rw [q]; decide)))
  have hT1 : trel kd 107 549 551 556 104 f_101 a_8 := hT1.keep (fun b q => hkc_102 b (by rw [q]; decide) (by rw [q]; decide)) (fun b q => hkc_102 b (by rw [q]; decide) (by rw [q]; decide)) (fun b q => hkc_102 b (by rw [q]; decide) (by rw [q]; decide)) (fun b q => hkc_102 b (by rw [q]; decide) (by rw [q]; decide)) (fun b q => congrArg (fun x => fldI x 1) (hkc_102 b (by rw [q]; decide) (by rw [q]; decide)))
  have hT2 : drel kd 1 521 522 f_101 a_83 := hT2.keep (fun b q => congrArg (fun x => fldI x 5) (hkc_102 b (by rw [q]; decide) (by rw [q]; decide))) (fun b q => congrArg (fun x => fldR x 0) (hkc_102 b (by rw [q]; decide) (by rw [q]; decide))) (fun b q => congrArg (fun x => fldR x 1) (hkc_102 b (by rw [q]; decide) (by rw [q]; decide))) (fun b q => hkc_102 b (by rw [q]; decide) (by rw [q]; decide)) (fun b q => hkc_102 b (by rw [q]; decide) (by rw [q]; decide))
  have hT3 : urel kd 5 3 6 7 f_101 o1 := hT3.keep (fun b q => hrc_108 b q) (fun b q => hrc_107 b q) (fun b q => hfc_103 b q) (fun b q => congrArg (fun x => fldI x 12) (hkc_102 b (by rw [q]; decide) (by rw [q]; decide)))
  have hT4 : urel kd 7 6 106 107 f_101 o1 := hT4.keep (fun b q => hrc_110 b q) (fun b q => hrc_109 b q) (fun b q => congrArg (fun x => fldI x 0) (hkc_102 b (by rw [q]; decide) (by rw [q]; decide))) (fun b q => congrArg (fun x => fldI x 12) (hkc_102 b (by rw [q]; decide) (by rw [q]; decide)))
  have hT5 : alrel kd f_101 o1 := hT5.keep (fun b q => hrc_106 b q) (fun b q => hrc_107 b q) (fun b q => congrArg (fun x => fldR x 0) (hkc_102 b (by rw [q]; decide) (by rw [q]; decide)))
  have hT6 : srel kd 592 f_101 o2 := hT6.keep (fun b q => congrArg (fun x => fldR x 30) (hkc_102 b (by rw [q]; decide) (by rw [q]; decide))) (fun b q => congrArg (fun x => fldI x 32) (hkc_102 b (by rw [q]; decide) (by rw [q]; decide))) (fun b q => congrArg (fun x => fldI x 33) (hkc_102 b (by rw [q]; decide) (by rw [q]; decide))) (fun b q => hkc_102 b (by rw [q]; decide) (by rw [q]; decide))
  obtain ⟨a_118, v_119, a_120, a_121, a_122, a_123, a_124, a_125, v_126, a_127, a_128, a_129, v_130, v_131, a_132, v_133, a_134, a_135, v_136, hfo_117, ⟨ma_118, ka_118⟩, bv_119, ⟨ma_120, ka_120⟩, ⟨ma_121, ka_121⟩, ⟨ma_122, ka_122⟩, ⟨ma_123, ka_123⟩, ⟨ma_124, ka_124⟩, ⟨ma_125, ka_125⟩, bv_126, ⟨ma_127, ka_127⟩, ⟨ma_128, ka_128⟩, ⟨ma_129, ka_129⟩, bv_130, ⟨ma_132, ka_132⟩, bv_133, ⟨ma_134, ka_134⟩, ⟨ma_135, ka_135⟩⟩ := un_11 (hG _ mo1) ko1
  have bv_131 : ((-2147483648) ≤ v_131.toInt ∧ v_131.toInt ≤ 2147483647) := ⟨i32_lo _, i32_hi _⟩
  have bv_136 : ((-2147483648) ≤ v_136.toInt ∧ v_136.toInt ≤ 2147483647) := ⟨i32_lo _, i32_hi _⟩
  obtain rfl : a_4 = a_120 := by have hk9 := hrr11_2 o1 ko1; rw [hfo_117, hfo_1] at hk9; exact (Option.some.inj hk9).symm
  obtain rfl : a_5 = a_121 := by have hk9 := hrr11_3 o1 ko1; rw [hfo_117, hfo_1] at hk9; exact (Option.some.inj hk9).symm
  obtain rfl : a_7 = a_123 := by have hk9 := hrr11_5 o1 ko1; rw [hfo_117, hfo_1] at hk9; exact (Option.some.inj hk9).symm
  obtain rfl : a_8 = a_124 := by have hk9 := hrr11_6 o1 ko1; rw [hfo_117, hfo_1] at hk9; exact (Option.some.inj hk9).symm
  obtain rfl : a_9 = a_125 := by have hk9 := hrr11_7 o1 ko1; rw [hfo_117, hfo_1] at hk9; exact (Option.some.inj hk9).symm
  obtain rfl : a_11 = a_127 := by have hk9 := hrr11_9 o1 ko1; rw [hfo_117, hfo_1] at hk9; exact (Option.some.inj hk9).symm
  obtain rfl : a_12 = a_128 := by have hk9 := hrr11_10 o1 ko1; rw [hfo_117, hfo_1] at hk9; exact (Option.some.inj hk9).symm
  obtain rfl : a_18 = a_134 := by have hk9 := hrr11_16 o1 ko1; rw [hfo_117, hfo_1] at hk9; exact (Option.some.inj hk9).symm
  obtain rfl : v_3 = v_119 := by have hk9 := hfc_104 o1 ko1; rw [hfo_117, hfo_1] at hk9; exact (Option.some.inj hk9).symm
  obtain rfl : v_10 = v_126 := by have hk9 := hfc_105 o1 ko1; rw [hfo_117, hfo_1] at hk9; exact (Option.some.inj hk9).symm
  refine lv_pop hx hb dL_law_318 rfl ?_
  refine lv_aload_n hx hb dL_law_319 rfl (lv_at hl 3 rfl) ?_
  refine lv_aload_n hx hb dL_law_320 rfl (lv_at hl 1 rfl) ?_
  refine lv_iload_n hx hb dL_law_321 rfl (lv_at hl 0 rfl) ?_
  refine lv_iconst (v := 1) hx hb dL_law_322 (by decide) ?_
  refine lv_iadd hx hb dL_law_323 ?_
  refine lv_topi (fun x_137 ex_137 => ?_)
  have hx_137 : x_137.toInt = i0.toInt + 1 := by rw [ex_137, ad_I (by rw [ti_1]; omega) (by rw [ti_1]; omega), ti_1]
  have bx_137 : (1 ≤ x_137.toInt ∧ x_137.toInt ≤ 379) := by constructor <;> omega
  refine va_sld hx hb hX hbl hbA hS (vp_in_iff.mpr (by constructor <;> omega)) dL_law_324 ?_
  refine lv_topi (fun x_138 ex_138 => ?_)
  have bx_138 : ((-2147483648) ≤ x_138.toInt ∧ x_138.toInt ≤ 2147483647) := ⟨i32_lo _, i32_hi _⟩
  have hsmx_138 : x_138.toInt = x_99.toInt := by rw [ex_138, ex_137, ex_99, ex_98]
  refine tk_ViP (As := [.int x_138]) (rest := []) (n := 1) hx hb hml hown hU hN hZ (s_X12_slack_k12 l (dC, dI) cI cL cZ cR cG cH Z kd L f_101 hG o2 mo2 ko2 x_138) wd_695 wd_696 wd_697 wd_5 wd_698 (by decide +kernel) ⟨Nat.le_of_ble_eq_true rfl, Nat.le_of_ble_eq_true rfl⟩ hK hP hD hS mo2 hfo_115 12 rfl rfl rfl hl.1 rfl (Nat.le_of_ble_eq_true rfl) dL_law_325 ⟨Nat.le_of_ble_eq_true rfl, Nat.le_of_ble_eq_true rfl⟩ (fun x_139 f_140 H locs hw hP hD hS => ?_)
  obtain ⟨hG, bx_139, relx_139, hkc_141⟩ := hw
  have hfo_143 : f_140 o2 = .inr (12, [.ref a_21, .ref a_22, .ref a_23, .int v_24, .ref a_25, .int v_26, .int v_27, .int v_28, .int v_29, .int v_30, .int v_31, .int v_32, .int v_33, .int v_34, .int v_35, .ref a_36, .ref a_37, .ref a_38, .ref a_39, .ref a_40, .ref a_41, .ref a_42, .ref a_43, .int v_44, .int v_45, .int v_46, .int v_47, .int v_48, .ref a_49, .int v_50, .ref a_51, .ref a_52, .int v_53, .int v_54, .ref a_55, .int v_56, .ref a_57, .ref a_58, .int v_59, .int v_60, .ref a_61, .ref a_62, .ref a_63, .int v_64, .ref a_65, .ref a_66, .ref a_67, .ref a_68, .ref a_69, .ref a_70, .ref a_71, .ref a_72, .ref a_73, .int v_74, .int v_75, .ref a_76]) := by rw [hkc_141 o2 (by rw [ko2]; decide)]; exact hfo_115
  have hfo_144 : f_140 a_4 = .inr (3, [.ref a_80, .ref a_81, .ref a_82, .ref a_83, .ref a_84, .int v_85, .int v_86, .int v_87, .int v_88, .int v_89, .int v_90, .int v_91, .ref a_92, .ref a_93, .ref a_94, .int v_95, .ref a_96, .ref a_97]) := by rw [hkc_141 a_4 (by rw [ka_4]; decide)]; exact hfo_116
  have hfo_145 : f_140 o1 = .inr (11, [.ref a_118, .int v_3, .ref a_4, .ref a_5, .ref a_122, .ref a_7, .ref a_8, .ref a_9, .int v_10, .ref a_11, .ref a_12, .ref a_129, .int v_130, .int v_131, .ref a_132, .int v_133, .ref a_18, .ref a_135, .int v_136]) := by rw [hkc_141 o1 (by rw [ko1]; decide)]; exact hfo_117
  have hrr11_2 : ∀ b, kd b = 11 → fldR (f_140 b) 2 = fldR (f b) 2 := fun b kb => (congrArg (fun x => fldR x 2) (hkc_141 b (by rw [kb]; decide))).trans (hrr11_2 b kb)
  have hrr11_3 : ∀ b, kd b = 11 → fldR (f_140 b) 3 = fldR (f b) 3 := fun b kb => (congrArg (fun x => fldR x 3) (hkc_141 b (by rw [kb]; decide))).trans (hrr11_3 b kb)
  have hrr11_5 : ∀ b, kd b = 11 → fldR (f_140 b) 5 = fldR (f b) 5 := fun b kb => (congrArg (fun x => fldR x 5) (hkc_141 b (by rw [kb]; decide))).trans (hrr11_5 b kb)
  have hrr11_6 : ∀ b, kd b = 11 → fldR (f_140 b) 6 = fldR (f b) 6 := fun b kb => (congrArg (fun x => fldR x 6) (hkc_141 b (by rw [kb]; decide))).trans (hrr11_6 b kb)
  have hrr11_7 : ∀ b, kd b = 11 → fldR (f_140 b) 7 = fldR (f b) 7 := fun b kb => (congrArg (fun x => fldR x 7) (hkc_141 b (by rw [kb]; decide))).trans (hrr11_7 b kb)
  have hrr11_9 : ∀ b, kd b = 11 → fldR (f_140 b) 9 = fldR (f b) 9 := fun b kb => (congrArg (fun x => fldR x 9) (hkc_141 b (by rw [kb]; decide))).trans (hrr11_9 b kb)
  have hrr11_10 : ∀ b, kd b = 11 → fldR (f_140 b) 10 = fldR (f b) 10 := fun b kb => (congrArg (fun x => fldR x 10) (hkc_141 b (by rw [kb]; decide))).trans (hrr11_10 b kb)
  have hrr11_16 : ∀ b, kd b = 11 → fldR (f_140 b) 16 = fldR (f b) 16 := fun b kb => (congrArg (fun x => fldR x 16) (hkc_141 b (by rw [kb]; decide))).trans (hrr11_16 b kb)
  have hrr3_0 : ∀ b, kd b = 3 → fldR (f_140 b) 0 = fldR (f b) 0 := fun b kb => (congrArg (fun x => fldR x 0) (hkc_141 b (by rw [kb]; decide))).trans (hrr3_0 b kb)
  have hrr3_3 : ∀ b, kd b = 3 → fldR (f_140 b) 3 = fldR (f b) 3 := fun b kb => (congrArg (fun x => fldR x 3) (hkc_141 b (by rw [kb]; decide))).trans (hrr3_3 b kb)
  have hrA12 : ∀ b, kd b = 12 → ∀ j, fldR (f_140 b) j = fldR (f b) j := fun b kb j => (congrArg (fun x => fldR x j) (hkc_141 b (by rw [kb]; decide))).trans (hrA12 b kb j)
  have hT0 : trel kd 7 508 510 515 4 f_140 a_5 := hT0.keep (fun b q => hkc_141 b (by rw [q]; decide)) (fun b q => hkc_141 b (by rw [q]; decide)) (fun b q => hkc_141 b (by rw [q]; decide)) (fun b q => hkc_141 b (by rw [q]; decide)) (fun b q => congrArg (fun x => fldI x 1) (hkc_141 b (by rw [q]; decide)))
  have hT1 : trel kd 107 549 551 556 104 f_140 a_8 := hT1.keep (fun b q => hkc_141 b (by rw [q]; decide)) (fun b q => hkc_141 b (by rw [q]; decide)) (fun b q => hkc_141 b (by rw [q]; decide)) (fun b q => hkc_141 b (by rw [q]; decide)) (fun b q => congrArg (fun x => fldI x 1) (hkc_141 b (by rw [q]; decide)))
  have hT2 : drel kd 1 521 522 f_140 a_83 := hT2.keep (fun b q => congrArg (fun x => fldI x 5) (hkc_141 b (by rw [q]; decide))) (fun b q => congrArg (fun x => fldR x 0) (hkc_141 b (by rw [q]; decide))) (fun b q => congrArg (fun x => fldR x 1) (hkc_141 b (by rw [q]; decide))) (fun b q => hkc_141 b (by rw [q]; decide)) (fun b q => hkc_141 b (by rw [q]; decide))
  have hT3 : urel kd 5 3 6 7 f_140 o1 := hT3.keep (fun b q => congrArg (fun x => fldR x 5) (hkc_141 b (by rw [q]; decide))) (fun b q => congrArg (fun x => fldR x 3) (hkc_141 b (by rw [q]; decide))) (fun b q => congrArg (fun x => fldI x 0) (hkc_141 b (by rw [q]; decide))) (fun b q => congrArg (fun x => fldI x 12) (hkc_141 b (by rw [q]; decide)))
  have hT4 : urel kd 7 6 106 107 f_140 o1 := hT4.keep (fun b q => congrArg (fun x => fldR x 7) (hkc_141 b (by rw [q]; decide))) (fun b q => congrArg (fun x => fldR x 6) (hkc_141 b (by rw [q]; decide))) (fun b q => congrArg (fun x => fldI x 0) (hkc_141 b (by rw [q]; decide))) (fun b q => congrArg (fun x => fldI x 12) (hkc_141 b (by rw [q]; decide)))
  have hT5 : alrel kd f_140 o1 := hT5.keep (fun b q => congrArg (fun x => fldR x 2) (hkc_141 b (by rw [q]; decide))) (fun b q => congrArg (fun x => fldR x 3) (hkc_141 b (by rw [q]; decide))) (fun b q => congrArg (fun x => fldR x 0) (hkc_141 b (by rw [q]; decide)))
  have hT6 : srel kd 592 f_140 o2 := hT6.keep (fun b q => congrArg (fun x => fldR x 30) (hkc_141 b (by rw [q]; decide))) (fun b q => congrArg (fun x => fldI x 32) (hkc_141 b (by rw [q]; decide))) (fun b q => congrArg (fun x => fldI x 33) (hkc_141 b (by rw [q]; decide))) (fun b q => hkc_141 b (by rw [q]; decide))
  refine lv_pop hx hb dL_law_328 rfl ?_
  refine lv_goto (tgt := 933) hx hb dL_law_329 (by decide) ?_
  exact kk f_140 _ _ hG hP hD hS ⟨(fun d9 h9 => by rw [hfo_145] at h9; obtain rfl := Option.some.inj h9; exact hT0), (fun d9 h9 => by rw [hfo_145] at h9; obtain rfl := Option.some.inj h9; exact hT1), (fun r9 d9 h8 h9 => by rw [hfo_145] at h8; obtain rfl := Option.some.inj h8; rw [hfo_144] at h9; obtain rfl := Option.some.inj h9; exact hT2), hT3, hT4, hT5, hT6, (fun z9 h9 => by rw [hfo_143] at h9; obtain rfl := Option.some.inj h9; omega), (fun y9 z9 h8 h9 => by rw [hfo_145] at h8; obtain rfl := Option.some.inj h8; rw [hfo_143] at h9; obtain rfl := Option.some.inj h9; omega), (fun y9 z9 h8 h9 => by rw [hfo_145] at h8; obtain rfl := Option.some.inj h8; rw [hfo_143] at h9; obtain rfl := Option.some.inj h9; omega)⟩ ls (lv_sub hl [0, 1, 2, 3] rfl)
set_option maxHeartbeats 8000000 in
set_option maxRecDepth 100000 in
theorem law_c6 {p : Program} {l : Launch} {e : Env} {s : State} {m : MethodId} {below : List Frame} {meth : Method} {c : Code} {dC : Nat → ClassId} {dI : Nat → Nat → Nat} {cI cL cZ cR cG cH : ClassId} {Z : zT} {kd : Nat → Nat} {L : List Nat} {b Ln : Nat} {xs : Nat → Int32} (hLn : Ln ≤ 384) (C0 : lw_At p s m meth c b Ln xs) (hK : va_K (dC, dI) vwCl (TY6 cI cL cZ cR cG cH) s) (hN : nsW s) (hZ : zW Z L s) (hLs : ∀ q ∈ L, s.heap.size ≤ q) {o1 o2 : Nat} (mo1 : o1 ∈ L) (ko1 : kd o1 = 11) (mo2 : o2 ∈ L) (ko2 : kd o2 = 12) {f : Nat → va_E} (hG : GI (okc cI cL cZ cR cG cH L kd) kd L f) {H : Heap} {locs : List Loc} (hP : va_P (dC, dI) vwCl (va_pl L f) H) (hD : va_D (fun q => q ∈ L) (va_pl L f)) (hS : va_S (fun q => q ∈ L) s.heap H locs) (hI : lawI kd f o1 o2) {i0 : Int32} (bi0 : 0 ≤ i0.toInt ∧ i0.toInt ≤ 378) (hi0 : i0.toInt + 6 ≤ (Ln : Int))
    (kk : ∀ (f1 : Nat → va_E) (H1 : Heap) (locs1 : List Loc), GI (okc cI cL cZ cR cG cH L kd) kd L f1 → va_P (dC, dI) vwCl (va_pl L f1) H1 → va_D (fun q => q ∈ L) (va_pl L f1) → va_S (fun q => q ∈ L) s.heap H1 locs1 → lawI kd f1 o1 o2 → ∀ (ls : Array Slot), lv_has ls 4 [(3, .int i0), (0, .ref b), (1, .ref o1), (2, .ref o2)] → W p l e room_1 s m #[Value.ref b] below meth c H1 locs1 559 115398 (lw_Z below #[Value.ref b] s) (F0 m 933 ls []))
    {ls : Array Slot} (hl : lv_has ls 4 [(3, .int i0), (0, .ref b), (1, .ref o1), (2, .ref o2)]) : W p l e room_1 s m #[Value.ref b] below meth c H locs 559 115398 (lw_Z below #[Value.ref b] s) (F0 m 332 ls []) := by
  obtain ⟨hx, hb, hr, hml, hown0, hts, hX, hbl, hlocks, hgv⟩ := C0
  have hown : s.vm.findClass RL = some m.cls := hown0
  have hU : ∀ w ∈ wsU, w.before #[Value.ref b] s = true := fun w h => hts w (wsU_in w h)
  have hbA : ¬ (fun q => q ∈ L) b := fun h => absurd (hLs b h) (Nat.not_le.mpr hbl)
  obtain ⟨hxtr0, hxtr1, hxtr2, hxtr3, hxtr4, hxtr5, hxtr6, hx29, hxtp, hxim⟩ := hI
  have hrr11_2 : ∀ b, kd b = 11 → fldR (f b) 2 = fldR (f b) 2 := fun _ _ => rfl
  have hrr11_3 : ∀ b, kd b = 11 → fldR (f b) 3 = fldR (f b) 3 := fun _ _ => rfl
  have hrr11_5 : ∀ b, kd b = 11 → fldR (f b) 5 = fldR (f b) 5 := fun _ _ => rfl
  have hrr11_6 : ∀ b, kd b = 11 → fldR (f b) 6 = fldR (f b) 6 := fun _ _ => rfl
  have hrr11_7 : ∀ b, kd b = 11 → fldR (f b) 7 = fldR (f b) 7 := fun _ _ => rfl
  have hrr11_9 : ∀ b, kd b = 11 → fldR (f b) 9 = fldR (f b) 9 := fun _ _ => rfl
  have hrr11_10 : ∀ b, kd b = 11 → fldR (f b) 10 = fldR (f b) 10 := fun _ _ => rfl
  have hrr11_16 : ∀ b, kd b = 11 → fldR (f b) 16 = fldR (f b) 16 := fun _ _ => rfl
  have hrr3_0 : ∀ b, kd b = 3 → fldR (f b) 0 = fldR (f b) 0 := fun _ _ => rfl
  have hrr3_3 : ∀ b, kd b = 3 → fldR (f b) 3 = fldR (f b) 3 := fun _ _ => rfl
  have hrA12 : ∀ b, kd b = 12 → ∀ j, fldR (f b) j = fldR (f b) j := fun _ _ _ => rfl
  obtain ⟨a_2, v_3, a_4, a_5, a_6, a_7, a_8, a_9, v_10, a_11, a_12, a_13, v_14, v_15, a_16, v_17, a_18, a_19, v_20, hfo_1, ⟨ma_2, ka_2⟩, bv_3, ⟨ma_4, ka_4⟩, ⟨ma_5, ka_5⟩, ⟨ma_6, ka_6⟩, ⟨ma_7, ka_7⟩, ⟨ma_8, ka_8⟩, ⟨ma_9, ka_9⟩, bv_10, ⟨ma_11, ka_11⟩, ⟨ma_12, ka_12⟩, ⟨ma_13, ka_13⟩, bv_14, ⟨ma_16, ka_16⟩, bv_17, ⟨ma_18, ka_18⟩, ⟨ma_19, ka_19⟩⟩ := un_11 (hG _ mo1) ko1
  have bv_15 : ((-2147483648) ≤ v_15.toInt ∧ v_15.toInt ≤ 2147483647) := ⟨i32_lo _, i32_hi _⟩
  have bv_20 : ((-2147483648) ≤ v_20.toInt ∧ v_20.toInt ≤ 2147483647) := ⟨i32_lo _, i32_hi _⟩
  obtain ⟨a_21, a_22, a_23, v_24, a_25, v_26, v_27, v_28, v_29, v_30, v_31, v_32, v_33, v_34, v_35, a_36, a_37, a_38, a_39, a_40, a_41, a_42, a_43, v_44, v_45, v_46, v_47, v_48, a_49, v_50, a_51, a_52, v_53, v_54, a_55, v_56, a_57, a_58, v_59, v_60, a_61, a_62, a_63, v_64, a_65, a_66, a_67, a_68, a_69, a_70, a_71, a_72, a_73, v_74, v_75, a_76, hfo_77, fa_78⟩ := un12 (hG _ mo2) ko2
  have bv_24 : (0 ≤ v_24.toInt ∧ v_24.toInt ≤ 1) := fa12_3 fa_78
  have bv_26 : (0 ≤ v_26.toInt ∧ v_26.toInt ≤ 600) := fa12_5 fa_78
  have bv_50 : (0 ≤ v_50.toInt ∧ v_50.toInt ≤ 201) := fa12_29 fa_78
  have hT0 := hxtr0 a_5 (by rw [hfo_1]; rfl)
  have hT1 := hxtr1 a_8 (by rw [hfo_1]; rfl)
  obtain ⟨a_80, a_81, a_82, a_83, a_84, v_85, v_86, v_87, v_88, v_89, v_90, v_91, a_92, a_93, a_94, v_95, a_96, a_97, hfo_79, ⟨ma_80, ka_80⟩, ⟨ma_81, ka_81⟩, ⟨ma_82, ka_82⟩, ⟨ma_83, ka_83⟩, ⟨ma_84, ka_84⟩, bv_85, bv_86, bv_87, ⟨ma_92, ka_92⟩, ⟨ma_93, ka_93⟩, ⟨ma_94, ka_94⟩, bv_95, ⟨ma_96, ka_96⟩, ⟨ma_97, ka_97⟩⟩ := un_3 (hG _ ma_4) ka_4
  have bv_88 : ((-2147483648) ≤ v_88.toInt ∧ v_88.toInt ≤ 2147483647) := ⟨i32_lo _, i32_hi _⟩
  have bv_89 : ((-2147483648) ≤ v_89.toInt ∧ v_89.toInt ≤ 2147483647) := ⟨i32_lo _, i32_hi _⟩
  have bv_90 : ((-2147483648) ≤ v_90.toInt ∧ v_90.toInt ≤ 2147483647) := ⟨i32_lo _, i32_hi _⟩
  have bv_91 : ((-2147483648) ≤ v_91.toInt ∧ v_91.toInt ≤ 2147483647) := ⟨i32_lo _, i32_hi _⟩
  have hT2 := hxtr2 a_4 a_83 (by rw [hfo_1]; rfl) (by rw [hfo_79]; rfl)
  have hT3 := hxtr3
  have hT4 := hxtr4
  have hT5 := hxtr5
  have hT6 := hxtr6
  have h29 := hx29 v_50 (by rw [hfo_77]; rfl)
  have htp := hxtp v_3 v_26 (by rw [hfo_1]; rfl) (by rw [hfo_77]; rfl)
  have him := hxim v_10 v_24 (by rw [hfo_1]; rfl) (by rw [hfo_77]; rfl)
  refine lv_aload_n hx hb dL_law_332 rfl (lv_at hl 2 rfl) ?_
  refine tk_ViP (As := []) (rest := []) (n := 0) hx hb hml hown hU hN hZ (s_X11_say_k11 l (dC, dI) cI cL cZ cR cG cH Z kd L f hG o1 mo1 ko1 (fun d9 h9 => by rw [hfo_1] at h9; obtain rfl := Option.some.inj h9; exact hT0) (fun r9 d9 h8 h9 => by rw [hfo_1] at h8; obtain rfl := Option.some.inj h8; rw [hfo_79] at h9; obtain rfl := Option.some.inj h9; exact hT2)) wd_699 wd_700 wd_701 wd_2 wd_702 (by decide +kernel) ⟨Nat.le_of_ble_eq_true rfl, Nat.le_of_ble_eq_true rfl⟩ hK hP hD hS mo1 hfo_1 11 rfl rfl rfl hl.1 rfl (Nat.le_of_ble_eq_true rfl) dL_law_333 ⟨Nat.le_of_ble_eq_true rfl, Nat.le_of_ble_eq_true rfl⟩ (fun x_98 f_99 H locs hw hP hD hS => ?_)
  obtain ⟨hG, bx_98, hkc_100, hfc_101, hrc_102, hrc_103, hrc_104, hrc_105, hrc_106, hrc_107, hrc_108, hrc_109, hrc_110, hrc_111, hrc_112, hrc_113, hpost_114, hTc_115, hTc_116⟩ := hw
  have hfo_118 : f_99 o2 = .inr (12, [.ref a_21, .ref a_22, .ref a_23, .int v_24, .ref a_25, .int v_26, .int v_27, .int v_28, .int v_29, .int v_30, .int v_31, .int v_32, .int v_33, .int v_34, .int v_35, .ref a_36, .ref a_37, .ref a_38, .ref a_39, .ref a_40, .ref a_41, .ref a_42, .ref a_43, .int v_44, .int v_45, .int v_46, .int v_47, .int v_48, .ref a_49, .int v_50, .ref a_51, .ref a_52, .int v_53, .int v_54, .ref a_55, .int v_56, .ref a_57, .ref a_58, .int v_59, .int v_60, .ref a_61, .ref a_62, .ref a_63, .int v_64, .ref a_65, .ref a_66, .ref a_67, .ref a_68, .ref a_69, .ref a_70, .ref a_71, .ref a_72, .ref a_73, .int v_74, .int v_75, .ref a_76]) := by rw [hkc_100 o2 (by rw [ko2]; decide) (by rw [ko2]; decide) (by rw [ko2]; decide) (by rw [ko2]; decide) (by rw [ko2]; decide) (by rw [ko2]; decide) (by rw [ko2]; decide) (by rw [ko2]; decide) (by rw [ko2]; decide) (by rw [ko2]; decide) (by rw [ko2]; decide) (by rw [ko2]; decide) (by rw [ko2]; decide) (by rw [ko2]; decide) (by rw [ko2]; decide) (by rw [ko2]; decide) (by rw [ko2]; decide)]; exact hfo_77
  have hrr11_2 : ∀ b, kd b = 11 → fldR (f_99 b) 2 = fldR (f b) 2 := fun b kb => (hrc_106 b kb).trans (hrr11_2 b kb)
  have hrr11_3 : ∀ b, kd b = 11 → fldR (f_99 b) 3 = fldR (f b) 3 := fun b kb => (hrc_107 b kb).trans (hrr11_3 b kb)
  have hrr11_5 : ∀ b, kd b = 11 → fldR (f_99 b) 5 = fldR (f b) 5 := fun b kb => (hrc_108 b kb).trans (hrr11_5 b kb)
  have hrr11_6 : ∀ b, kd b = 11 → fldR (f_99 b) 6 = fldR (f b) 6 := fun b kb => (hrc_109 b kb).trans (hrr11_6 b kb)
  have hrr11_7 : ∀ b, kd b = 11 → fldR (f_99 b) 7 = fldR (f b) 7 := fun b kb => (hrc_110 b kb).trans (hrr11_7 b kb)
  have hrr11_9 : ∀ b, kd b = 11 → fldR (f_99 b) 9 = fldR (f b) 9 := fun b kb => (hrc_111 b kb).trans (hrr11_9 b kb)
  have hrr11_10 : ∀ b, kd b = 11 → fldR (f_99 b) 10 = fldR (f b) 10 := fun b kb => (hrc_112 b kb).trans (hrr11_10 b kb)
  have hrr11_16 : ∀ b, kd b = 11 → fldR (f_99 b) 16 = fldR (f b) 16 := fun b kb => (hrc_113 b kb).trans (hrr11_16 b kb)
  have hrr3_0 : ∀ b, kd b = 3 → fldR (f_99 b) 0 = fldR (f b) 0 := fun b kb => (hrc_104 b kb).trans (hrr3_0 b kb)
  have hrr3_3 : ∀ b, kd b = 3 → fldR (f_99 b) 3 = fldR (f b) 3 := fun b kb => (hrc_105 b kb).trans (hrr3_3 b kb)
  have hrA12 : ∀ b, kd b = 12 → ∀ j, fldR (f_99 b) j = fldR (f b) j := fun b kb j => (congrArg (fun x => fldR x j) (hkc_100 b (by rw [kb]; decide) (by rw [kb]; decide) (by rw [kb]; decide) (by rw [kb]; decide) (by rw [kb]; decide) (by rw [kb]; decide) (by rw [kb]; decide) (by rw [kb]; decide) (by rw [kb]; decide) (by rw [kb]; decide) (by rw [kb]; decide) (by rw [kb]; decide) (by rw [kb]; decide) (by rw [kb]; decide) (by rw [kb]; decide) (by rw [kb]; decide) (by rw [kb]; decide))).trans (hrA12 b kb j)
  have hT0 : trel kd 7 508 510 515 4 f_99 a_5 := hT0.keep (fun b q => hkc_100 b (by rw [q]; decide) (by rw [q]; decide) (by rw [q]; decide) (by rw [q]; decide) (by rw [q]; decide) (by rw [q]; decide) (by rw [q]; decide) (by rw [q]; decide) (by rw [q]; decide) (by rw [q]; decide) (by rw [q]; decide) (by rw [q]; decide) (by rw [q]; decide) (by rw [q]; decide) (by rw [q]; decide) (by rw [q]; decide) (by rw [q]; decide)) (fun b q => hkc_100 b (by rw [q]; decide) (by rw [q]; decide) (by rw [q]; decide) (by rw [q]; decide) (by rw [q]; decide) (by rw [q]; decide) (by rw [q]; decide) (by rw [q]; decide) (by rw [q]; decide) (by rw [q]; decide) (by rw [q]; decide) (by rw [q]; decide) (by rw [q]; decide) (by rw [q]; decide) (by rw [q]; decide) (by rw [q]; decide) (by rw [q]; decide)) (fun b q => hkc_100 b (by rw [q]; decide) (by rw [q]; decide) (by rw [q]; decide) (by rw [q]; decide) (by rw [q]; decide) (by rw [q]; decide) (by rw [q]; decide) (by rw [q]; decide) (by rw [q]; decide) (by rw [q]; decide) (by rw [q]; decide) (by rw [q]; decide) (by rw [q]; decide) (by rw [q]; decide) (by rw [q]; decide) (by rw [q]; decide) (by rw [q]; decide)) (fun b q => hkc_100 b (by rw [q]; decide) (by rw [q]; decide) (by rw [q]; decide) (by rw [q]; decide) (by rw [q]; decide) (by rw [q]; decide) (by rw [q]; decide) (by rw [q]; decide) (by rw [q]; decide) (by rw [q]; decide) (by rw [q]; decide) (by rw [q]; decide) (by rw [q]; decide) (by rw [q]; decide) (by rw [q]; decide) (by rw [q]; decide) (by rw [q]; decide)) (fun b q => congrArg (fun x => fldI x 1) (hkc_100 b (by rw [q]; decide) (by rw [q]; decide) (by rw [q]; decide) (by rw [q]; decide) (by rw [q]; decide) (by rw [q]; decide) (by rw [q]; decide) (by rw [q]; decide) (by rw [q]; decide) (by rw [q]; decide) (by rw [q]; decide) (by rw [q]; decide) (by rw [q]; decide) (by rw [q]; decide) (by rw [q]; decide) (by rw [q]; decide) (by rw [q]; decide)))
  have hT1 : trel kd 107 549 551 556 104 f_99 a_8 := hT1.keep (fun b q => hkc_100 b (by rw [q]; decide) (by rw [q]; decide) (by rw [q]; decide) (by rw [q]; decide) (by rw [q]; decide) (by rw [q]; decide) (by rw [q]; decide) (by rw [q]; decide) (by rw [q]; decide) (by rw [q]; decide) (by rw [q]; decide) (by rw [q]; decide) (by rw [q]; decide) (by rw [q]; decide) (by rw [q]; decide) (by rw [q]; decide) (by rw [q]; decide)) (fun b q => hkc_100 b (by rw [q]; decide) (by rw [q]; decide) (by rw [q]; decide) (by rw [q]; decide) (by rw [q]; decide) (by rw [q]; decide) (by rw [q]; decide) (by rw [q]; decide) (by rw [q]; decide) (by rw [q]; decide) (by rw [q]; decide) (by rw [q]; decide) (by rw [q]; decide) (by rw [q]; decide) (by rw [q]; decide) (by rw [q]; decide) (by rw [q]; decide)) (fun b q => hkc_100 b (by rw [q]; decide) (by rw [q]; decide) (by rw [q]; decide) (by rw [q]; decide) (by rw [q]; decide) (by rw [q]; decide) (by rw [q]; decide) (by rw [q]; decide) (by rw [q]; decide) (by rw [q]; decide) (by rw [q]; decide) (by rw [q]; decide) (by rw [q]; decide) (by rw [q]; decide) (by rw [q]; decide) (by rw [q]; decide) (by rw [q]; decide)) (fun b q => hkc_100 b (by rw [q]; decide) (by rw [q]; decide) (by rw [q]; decide) (by rw [q]; decide) (by rw [q]; decide) (by rw [q]; decide) (by rw [q]; decide) (by rw [q]; decide) (by rw [q]; decide) (by rw [q]; decide) (by rw [q]; decide) (by rw [q]; decide) (by rw [q]; decide) (by rw [q]; decide) (by rw [q]; decide) (by rw [q]; decide) (by rw [q]; decide)) (fun b q => congrArg (fun x => fldI x 1) (hkc_100 b (by rw [q]; decide) (by rw [q]; decide) (by rw [q]; decide) (by rw [q]; decide) (by rw [q]; decide) (by rw [q]; decide) (by rw [q]; decide) (by rw [q]; decide) (by rw [q]; decide) (by rw [q]; decide) (by rw [q]; decide) (by rw [q]; decide) (by rw [q]; decide) (by rw [q]; decide) (by rw [q]; decide) (by rw [q]; decide) (by rw [q]; decide)))
  have hT3 : urel kd 5 3 6 7 f_99 o1 := hT3.keep (fun b q => hrc_108 b q) (fun b q => hrc_107 b q) (fun b q => congrArg (fun x => fldI x 0) (hkc_100 b (by rw [q]; decide) (by rw [q]; decide) (by rw [q]; decide) (by rw [q]; decide) (by rw [q]; decide) (by rw [q]; decide) (by rw [q]; decide) (by rw [q]; decide) (by rw [q]; decide) (by rw [q]; decide) (by rw [q]; decide) (by rw [q]; decide) (by rw [q]; decide) (by rw [q]; decide) (by rw [q]; decide) (by rw [q]; decide) (by rw [q]; decide))) (fun b q => congrArg (fun x => fldI x 12) (hkc_100 b (by rw [q]; decide) (by rw [q]; decide) (by rw [q]; decide) (by rw [q]; decide) (by rw [q]; decide) (by rw [q]; decide) (by rw [q]; decide) (by rw [q]; decide) (by rw [q]; decide) (by rw [q]; decide) (by rw [q]; decide) (by rw [q]; decide) (by rw [q]; decide) (by rw [q]; decide) (by rw [q]; decide) (by rw [q]; decide) (by rw [q]; decide)))
  have hT4 : urel kd 7 6 106 107 f_99 o1 := hT4.keep (fun b q => hrc_110 b q) (fun b q => hrc_109 b q) (fun b q => congrArg (fun x => fldI x 0) (hkc_100 b (by rw [q]; decide) (by rw [q]; decide) (by rw [q]; decide) (by rw [q]; decide) (by rw [q]; decide) (by rw [q]; decide) (by rw [q]; decide) (by rw [q]; decide) (by rw [q]; decide) (by rw [q]; decide) (by rw [q]; decide) (by rw [q]; decide) (by rw [q]; decide) (by rw [q]; decide) (by rw [q]; decide) (by rw [q]; decide) (by rw [q]; decide))) (fun b q => congrArg (fun x => fldI x 12) (hkc_100 b (by rw [q]; decide) (by rw [q]; decide) (by rw [q]; decide) (by rw [q]; decide) (by rw [q]; decide) (by rw [q]; decide) (by rw [q]; decide) (by rw [q]; decide) (by rw [q]; decide) (by rw [q]; decide) (by rw [q]; decide) (by rw [q]; decide) (by rw [q]; decide) (by rw [q]; decide) (by rw [q]; decide) (by rw [q]; decide) (by rw [q]; decide)))
  have hT5 : alrel kd f_99 o1 := hT5.keep (fun b q => hrc_106 b q) (fun b q => hrc_107 b q) (fun b q => hrc_104 b q)
  have hT6 : srel kd 592 f_99 o2 := hT6.keep (fun b q => congrArg (fun x => fldR x 30) (hkc_100 b (by rw [q]; decide) (by rw [q]; decide) (by rw [q]; decide) (by rw [q]; decide) (by rw [q]; decide) (by rw [q]; decide) (by rw [q]; decide) (by rw [q]; decide) (by rw [q]; decide) (by rw [q]; decide) (by rw [q]; decide) (by rw [q]; decide) (by rw [q]; decide) (by rw [q]; decide) (by rw [q]; decide) (by rw [q]; decide) (by rw [q]; decide))) (fun b q => congrArg (fun x => fldI x 32) (hkc_100 b (by rw [q]; decide) (by rw [q]; decide) (by rw [q]; decide) (by rw [q]; decide) (by rw [q]; decide) (by rw [q]; decide) (by rw [q]; decide) (by rw [q]; decide) (by rw [q]; decide) (by rw [q]; decide) (by rw [q]; decide) (by rw [q]; decide) (by rw [q]; decide) (by rw [q]; decide) (by rw [q]; decide) (by rw [q]; decide) (by rw [q]; decide))) (fun b q => congrArg (fun x => fldI x 33) (hkc_100 b (by rw [q]; decide) (by rw [q]; decide) (by rw [q]; decide) (by rw [q]; decide) (by rw [q]; decide) (by rw [q]; decide) (by rw [q]; decide) (by rw [q]; decide) (by rw [q]; decide) (by rw [q]; decide) (by rw [q]; decide) (by rw [q]; decide) (by rw [q]; decide) (by rw [q]; decide) (by rw [q]; decide) (by rw [q]; decide) (by rw [q]; decide))) (fun b q => hkc_100 b (by rw [q]; decide) (by rw [q]; decide) (by rw [q]; decide) (by rw [q]; decide) (by rw [q]; decide) (by rw [q]; decide) (by rw [q]; decide) (by rw [q]; decide) (by rw [q]; decide) (by rw [q]; decide) (by rw [q]; decide) (by rw [q]; decide) (by rw [q]; decide) (by rw [q]; decide) (by rw [q]; decide) (by rw [q]; decide) (by rw [q]; decide))
  obtain ⟨a_120, v_121, a_122, a_123, a_124, a_125, a_126, a_127, v_128, a_129, a_130, a_131, v_132, v_133, a_134, v_135, a_136, a_137, v_138, hfo_119, ⟨ma_120, ka_120⟩, bv_121, ⟨ma_122, ka_122⟩, ⟨ma_123, ka_123⟩, ⟨ma_124, ka_124⟩, ⟨ma_125, ka_125⟩, ⟨ma_126, ka_126⟩, ⟨ma_127, ka_127⟩, bv_128, ⟨ma_129, ka_129⟩, ⟨ma_130, ka_130⟩, ⟨ma_131, ka_131⟩, bv_132, ⟨ma_134, ka_134⟩, bv_135, ⟨ma_136, ka_136⟩, ⟨ma_137, ka_137⟩⟩ := un_11 (hG _ mo1) ko1
  have bv_133 : ((-2147483648) ≤ v_133.toInt ∧ v_133.toInt ≤ 2147483647) := ⟨i32_lo _, i32_hi _⟩
  have bv_138 : ((-2147483648) ≤ v_138.toInt ∧ v_138.toInt ≤ 2147483647) := ⟨i32_lo _, i32_hi _⟩
  obtain rfl : a_4 = a_122 := by have hk9 := hrr11_2 o1 ko1; rw [hfo_119, hfo_1] at hk9; exact (Option.some.inj hk9).symm
  obtain rfl : a_5 = a_123 := by have hk9 := hrr11_3 o1 ko1; rw [hfo_119, hfo_1] at hk9; exact (Option.some.inj hk9).symm
  obtain rfl : a_7 = a_125 := by have hk9 := hrr11_5 o1 ko1; rw [hfo_119, hfo_1] at hk9; exact (Option.some.inj hk9).symm
  obtain rfl : a_8 = a_126 := by have hk9 := hrr11_6 o1 ko1; rw [hfo_119, hfo_1] at hk9; exact (Option.some.inj hk9).symm
  obtain rfl : a_9 = a_127 := by have hk9 := hrr11_7 o1 ko1; rw [hfo_119, hfo_1] at hk9; exact (Option.some.inj hk9).symm
  obtain rfl : a_11 = a_129 := by have hk9 := hrr11_9 o1 ko1; rw [hfo_119, hfo_1] at hk9; exact (Option.some.inj hk9).symm
  obtain rfl : a_12 = a_130 := by have hk9 := hrr11_10 o1 ko1; rw [hfo_119, hfo_1] at hk9; exact (Option.some.inj hk9).symm
  obtain rfl : a_18 = a_136 := by have hk9 := hrr11_16 o1 ko1; rw [hfo_119, hfo_1] at hk9; exact (Option.some.inj hk9).symm
  obtain rfl : v_10 = v_128 := by have hk9 := hfc_101 o1 ko1; rw [hfo_119, hfo_1] at hk9; exact (Option.some.inj hk9).symm
  have hqhpost_114 := hpost_114 v_3 v_121 (by rw [hfo_1]; rfl) (by rw [hfo_119]; rfl)
  obtain ⟨a_140, a_141, a_142, a_143, a_144, v_145, v_146, v_147, v_148, v_149, v_150, v_151, a_152, a_153, a_154, v_155, a_156, a_157, hfo_139, ⟨ma_140, ka_140⟩, ⟨ma_141, ka_141⟩, ⟨ma_142, ka_142⟩, ⟨ma_143, ka_143⟩, ⟨ma_144, ka_144⟩, bv_145, bv_146, bv_147, ⟨ma_152, ka_152⟩, ⟨ma_153, ka_153⟩, ⟨ma_154, ka_154⟩, bv_155, ⟨ma_156, ka_156⟩, ⟨ma_157, ka_157⟩⟩ := un_3 (hG _ ma_4) ka_4
  have bv_148 : ((-2147483648) ≤ v_148.toInt ∧ v_148.toInt ≤ 2147483647) := ⟨i32_lo _, i32_hi _⟩
  have bv_149 : ((-2147483648) ≤ v_149.toInt ∧ v_149.toInt ≤ 2147483647) := ⟨i32_lo _, i32_hi _⟩
  have bv_150 : ((-2147483648) ≤ v_150.toInt ∧ v_150.toInt ≤ 2147483647) := ⟨i32_lo _, i32_hi _⟩
  have bv_151 : ((-2147483648) ≤ v_151.toInt ∧ v_151.toInt ≤ 2147483647) := ⟨i32_lo _, i32_hi _⟩
  obtain rfl : a_80 = a_140 := by have hk9 := hrr3_0 a_4 ka_4; rw [hfo_139, hfo_79] at hk9; exact (Option.some.inj hk9).symm
  obtain rfl : a_83 = a_143 := by have hk9 := hrr3_3 a_4 ka_4; rw [hfo_139, hfo_79] at hk9; exact (Option.some.inj hk9).symm
  have hT_158 := hTc_115 a_5 (by rw [hfo_119]; rfl)
  have hT_159 := hTc_116 a_4 a_83 (by rw [hfo_119]; rfl) (by rw [hfo_139]; rfl)
  refine lv_pop hx hb dL_law_336 rfl ?_
  refine lv_aload_n hx hb dL_law_337 rfl (lv_at hl 3 rfl) ?_
  refine tk_ViP (As := []) (rest := []) (n := 0) hx hb hml hown hU hN hZ (s_X12_say_k12 l (dC, dI) cI cL cZ cR cG cH Z kd L f_99 hG o2 mo2 ko2 hT6) wd_855 wd_856 wd_857 wd_5 wd_858 (by decide +kernel) ⟨Nat.le_of_ble_eq_true rfl, Nat.le_of_ble_eq_true rfl⟩ hK hP hD hS mo2 hfo_118 12 rfl rfl rfl hl.1 rfl (Nat.le_of_ble_eq_true rfl) dL_law_338 ⟨Nat.le_of_ble_eq_true rfl, Nat.le_of_ble_eq_true rfl⟩ (fun x_160 f_161 H locs hw hP hD hS => ?_)
  obtain ⟨hG, bx_160, hkc_162, hra_163, hfa_164, hpost_165, hTc_166⟩ := hw
  have hfo_168 : f_161 o1 = .inr (11, [.ref a_120, .int v_121, .ref a_4, .ref a_5, .ref a_124, .ref a_7, .ref a_8, .ref a_9, .int v_10, .ref a_11, .ref a_12, .ref a_131, .int v_132, .int v_133, .ref a_134, .int v_135, .ref a_18, .ref a_137, .int v_138]) := by rw [hkc_162 o1 (by rw [ko1]; decide) (by rw [ko1]; decide) (by rw [ko1]; decide) (by rw [ko1]; decide) (by rw [ko1]; decide) (by rw [ko1]; decide) (by rw [ko1]; decide) (by rw [ko1]; decide) (by rw [ko1]; decide) (by rw [ko1]; decide) (by rw [ko1]; decide) (by rw [ko1]; decide) (by rw [ko1]; decide)]; exact hfo_119
  have hfo_169 : f_161 a_4 = .inr (3, [.ref a_80, .ref a_141, .ref a_142, .ref a_83, .ref a_144, .int v_145, .int v_146, .int v_147, .int v_148, .int v_149, .int v_150, .int v_151, .ref a_152, .ref a_153, .ref a_154, .int v_155, .ref a_156, .ref a_157]) := by rw [hkc_162 a_4 (by rw [ka_4]; decide) (by rw [ka_4]; decide) (by rw [ka_4]; decide) (by rw [ka_4]; decide) (by rw [ka_4]; decide) (by rw [ka_4]; decide) (by rw [ka_4]; decide) (by rw [ka_4]; decide) (by rw [ka_4]; decide) (by rw [ka_4]; decide) (by rw [ka_4]; decide) (by rw [ka_4]; decide) (by rw [ka_4]; decide)]; exact hfo_139
  have hrr11_2 : ∀ b, kd b = 11 → fldR (f_161 b) 2 = fldR (f b) 2 := fun b kb => (congrArg (fun x => fldR x 2) (hkc_162 b (by rw [kb]; decide) (by rw [kb]; decide) (by rw [kb]; decide) (by rw [kb]; decide) (by rw [kb]; decide) (by rw [kb]; decide) (by rw [kb]; decide) (by rw [kb]; decide) (by rw [kb]; decide) (by rw [kb]; decide) (by rw [kb]; decide) (by rw [kb]; decide) (by rw [kb]; decide))).trans (hrr11_2 b kb)
  have hrr11_3 : ∀ b, kd b = 11 → fldR (f_161 b) 3 = fldR (f b) 3 := fun b kb => (congrArg (fun x => fldR x 3) (hkc_162 b (by rw [kb]; decide) (by rw [kb]; decide) (by rw [kb]; decide) (by rw [kb]; decide) (by rw [kb]; decide) (by rw [kb]; decide) (by rw [kb]; decide) (by rw [kb]; decide) (by rw [kb]; decide) (by rw [kb]; decide) (by rw [kb]; decide) (by rw [kb]; decide) (by rw [kb]; decide))).trans (hrr11_3 b kb)
  have hrr11_5 : ∀ b, kd b = 11 → fldR (f_161 b) 5 = fldR (f b) 5 := fun b kb => (congrArg (fun x => fldR x 5) (hkc_162 b (by rw [kb]; decide) (by rw [kb]; decide) (by rw [kb]; decide) (by rw [kb]; decide) (by rw [kb]; decide) (by rw [kb]; decide) (by rw [kb]; decide) (by rw [kb]; decide) (by rw [kb]; decide) (by rw [kb]; decide) (by rw [kb]; decide) (by rw [kb]; decide) (by rw [kb]; decide))).trans (hrr11_5 b kb)
  have hrr11_6 : ∀ b, kd b = 11 → fldR (f_161 b) 6 = fldR (f b) 6 := fun b kb => (congrArg (fun x => fldR x 6) (hkc_162 b (by rw [kb]; decide) (by rw [kb]; decide) (by rw [kb]; decide) (by rw [kb]; decide) (by rw [kb]; decide) (by rw [kb]; decide) (by rw [kb]; decide) (by rw [kb]; decide) (by rw [kb]; decide) (by rw [kb]; decide) (by rw [kb]; decide) (by rw [kb]; decide) (by rw [kb]; decide))).trans (hrr11_6 b kb)
  have hrr11_7 : ∀ b, kd b = 11 → fldR (f_161 b) 7 = fldR (f b) 7 := fun b kb => (congrArg (fun x => fldR x 7) (hkc_162 b (by rw [kb]; decide) (by rw [kb]; decide) (by rw [kb]; decide) (by rw [kb]; decide) (by rw [kb]; decide) (by rw [kb]; decide) (by rw [kb]; decide) (by rw [kb]; decide) (by rw [kb]; decide) (by rw [kb]; decide) (by rw [kb]; decide) (by rw [kb]; decide) (by rw [kb]; decide))).trans (hrr11_7 b kb)
  have hrr11_9 : ∀ b, kd b = 11 → fldR (f_161 b) 9 = fldR (f b) 9 := fun b kb => (congrArg (fun x => fldR x 9) (hkc_162 b (by rw [kb]; decide) (by rw [kb]; decide) (by rw [kb]; decide) (by rw [kb]; decide) (by rw [kb]; decide) (by rw [kb]; decide) (by rw [kb]; decide) (by rw [kb]; decide) (by rw [kb]; decide) (by rw [kb]; decide) (by rw [kb]; decide) (by rw [kb]; decide) (by rw [kb]; decide))).trans (hrr11_9 b kb)
  have hrr11_10 : ∀ b, kd b = 11 → fldR (f_161 b) 10 = fldR (f b) 10 := fun b kb => (congrArg (fun x => fldR x 10) (hkc_162 b (by rw [kb]; decide) (by rw [kb]; decide) (by rw [kb]; decide) (by rw [kb]; decide) (by rw [kb]; decide) (by rw [kb]; decide) (by rw [kb]; decide) (by rw [kb]; decide) (by rw [kb]; decide) (by rw [kb]; decide) (by rw [kb]; decide) (by rw [kb]; decide) (by rw [kb]; decide))).trans (hrr11_10 b kb)
  have hrr11_16 : ∀ b, kd b = 11 → fldR (f_161 b) 16 = fldR (f b) 16 := fun b kb => (congrArg (fun x => fldR x 16) (hkc_162 b (by rw [kb]; decide) (by rw [kb]; decide) (by rw [kb]; decide) (by rw [kb]; decide) (by rw [kb]; decide) (by rw [kb]; decide) (by rw [kb]; decide) (by rw [kb]; decide) (by rw [kb]; decide) (by rw [kb]; decide) (by rw [kb]; decide) (by rw [kb]; decide) (by rw [kb]; decide))).trans (hrr11_16 b kb)
  have hrr3_0 : ∀ b, kd b = 3 → fldR (f_161 b) 0 = fldR (f b) 0 := fun b kb => (congrArg (fun x => fldR x 0) (hkc_162 b (by rw [kb]; decide) (by rw [kb]; decide) (by rw [kb]; decide) (by rw [kb]; decide) (by rw [kb]; decide) (by rw [kb]; decide) (by rw [kb]; decide) (by rw [kb]; decide) (by rw [kb]; decide) (by rw [kb]; decide) (by rw [kb]; decide) (by rw [kb]; decide) (by rw [kb]; decide))).trans (hrr3_0 b kb)
  have hrr3_3 : ∀ b, kd b = 3 → fldR (f_161 b) 3 = fldR (f b) 3 := fun b kb => (congrArg (fun x => fldR x 3) (hkc_162 b (by rw [kb]; decide) (by rw [kb]; decide) (by rw [kb]; decide) (by rw [kb]; decide) (by rw [kb]; decide) (by rw [kb]; decide) (by rw [kb]; decide) (by rw [kb]; decide) (by rw [kb]; decide) (by rw [kb]; decide) (by rw [kb]; decide) (by rw [kb]; decide) (by rw [kb]; decide))).trans (hrr3_3 b kb)
  have hrA12 : ∀ b, kd b = 12 → ∀ j, fldR (f_161 b) j = fldR (f b) j := fun b kb j => (hra_163 b kb j).trans (hrA12 b kb j)
  have hT_158 : trel kd 7 508 510 515 4 f_161 a_5 := hT_158.keep (fun b q => hkc_162 b (by rw [q]; decide) (by rw [q]; decide) (by rw [q]; decide) (by rw [q]; decide) (by rw [q]; decide) (by rw [q]; decide) (by rw [q]; decide) (by rw [q]; decide) (by rw [q]; decide) (by rw [q]; decide) (by rw [q]; decide) (by rw [q]; decide) (by rw [q]; decide)) (fun b q => hkc_162 b (by rw [q]; decide) (by rw [q]; decide) (by rw [q]; decide) (by rw [q]; decide) (by rw [q]; decide) (by rw [q]; decide) (by rw [q]; decide) (by rw [q]; decide) (by rw [q]; decide) (by rw [q]; decide) (by rw [q]; decide) (by rw [q]; decide) (by rw [q]; decide)) (fun b q => hkc_162 b (by rw [q]; decide) (by rw [q]; decide) (by rw [q]; decide) (by rw [q]; decide) (by rw [q]; decide) (by rw [q]; decide) (by rw [q]; decide) (by rw [q]; decide) (by rw [q]; decide) (by rw [q]; decide) (by rw [q]; decide) (by rw [q]; decide) (by rw [q]; decide)) (fun b q => hkc_162 b (by rw [q]; decide) (by rw [q]; decide) (by rw [q]; decide) (by rw [q]; decide) (by rw [q]; decide) (by rw [q]; decide) (by rw [q]; decide) (by rw [q]; decide) (by rw [q]; decide) (by rw [q]; decide) (by rw [q]; decide) (by rw [q]; decide) (by rw [q]; decide)) (fun b q => congrArg (fun x => fldI x 1) (hkc_162 b (by rw [q]; decide) (by rw [q]; decide) (by rw [q]; decide) (by rw [q]; decide) (by rw [q]; decide) (by rw [q]; decide) (by rw [q]; decide) (by rw [q]; decide) (by rw [q]; decide) (by rw [q]; decide) (by rw [q]; decide) (by rw [q]; decide) (by rw [q]; decide)))
  have hT1 : trel kd 107 549 551 556 104 f_161 a_8 := hT1.keep (fun b q => hkc_162 b (by rw [q]; decide) (by rw [q]; decide) (by rw [q]; decide) (by rw [q]; decide) (by rw [q]; decide) (by rw [q]; decide) (by rw [q]; decide) (by rw [q]; decide) (by rw [q]; decide) (by rw [q]; decide) (by rw [q]; decide) (by rw [q]; decide) (by rw [q]; decide)) (fun b q => hkc_162 b (by rw [q]; decide) (by rw [q]; decide) (by rw [q]; decide) (by rw [q]; decide) (by rw [q]; decide) (by rw [q]; decide) (by rw [q]; decide) (by rw [q]; decide) (by rw [q]; decide) (by rw [q]; decide) (by rw [q]; decide) (by rw [q]; decide) (by rw [q]; decide)) (fun b q => hkc_162 b (by rw [q]; decide) (by rw [q]; decide) (by rw [q]; decide) (by rw [q]; decide) (by rw [q]; decide) (by rw [q]; decide) (by rw [q]; decide) (by rw [q]; decide) (by rw [q]; decide) (by rw [q]; decide) (by rw [q]; decide) (by rw [q]; decide) (by rw [q]; decide)) (fun b q => hkc_162 b (by rw [q]; decide) (by rw [q]; decide) (by rw [q]; decide) (by rw [q]; decide) (by rw [q]; decide) (by rw [q]; decide) (by rw [q]; decide) (by rw [q]; decide) (by rw [q]; decide) (by rw [q]; decide) (by rw [q]; decide) (by rw [q]; decide) (by rw [q]; decide)) (fun b q => congrArg (fun x => fldI x 1) (hkc_162 b (by rw [q]; decide) (by rw [q]; decide) (by rw [q]; decide) (by rw [q]; decide) (by rw [q]; decide) (by rw [q]; decide) (by rw [q]; decide) (by rw [q]; decide) (by rw [q]; decide) (by rw [q]; decide) (by rw [q]; decide) (by rw [q]; decide) (by rw [q]; decide)))
  have hT3 : urel kd 5 3 6 7 f_161 o1 := hT3.keep (fun b q => congrArg (fun x => fldR x 5) (hkc_162 b (by rw [q]; decide) (by rw [q]; decide) (by rw [q]; decide) (by rw [q]; decide) (by rw [q]; decide) (by rw [q]; decide) (by rw [q]; decide) (by rw [q]; decide) (by rw [q]; decide) (by rw [q]; decide) (by rw [q]; decide) (by rw [q]; decide) (by rw [q]; decide))) (fun b q => congrArg (fun x => fldR x 3) (hkc_162 b (by rw [q]; decide) (by rw [q]; decide) (by rw [q]; decide) (by rw [q]; decide) (by rw [q]; decide) (by rw [q]; decide) (by rw [q]; decide) (by rw [q]; decide) (by rw [q]; decide) (by rw [q]; decide) (by rw [q]; decide) (by rw [q]; decide) (by rw [q]; decide))) (fun b q => congrArg (fun x => fldI x 0) (hkc_162 b (by rw [q]; decide) (by rw [q]; decide) (by rw [q]; decide) (by rw [q]; decide) (by rw [q]; decide) (by rw [q]; decide) (by rw [q]; decide) (by rw [q]; decide) (by rw [q]; decide) (by rw [q]; decide) (by rw [q]; decide) (by rw [q]; decide) (by rw [q]; decide))) (fun b q => congrArg (fun x => fldI x 12) (hkc_162 b (by rw [q]; decide) (by rw [q]; decide) (by rw [q]; decide) (by rw [q]; decide) (by rw [q]; decide) (by rw [q]; decide) (by rw [q]; decide) (by rw [q]; decide) (by rw [q]; decide) (by rw [q]; decide) (by rw [q]; decide) (by rw [q]; decide) (by rw [q]; decide)))
  have hT4 : urel kd 7 6 106 107 f_161 o1 := hT4.keep (fun b q => congrArg (fun x => fldR x 7) (hkc_162 b (by rw [q]; decide) (by rw [q]; decide) (by rw [q]; decide) (by rw [q]; decide) (by rw [q]; decide) (by rw [q]; decide) (by rw [q]; decide) (by rw [q]; decide) (by rw [q]; decide) (by rw [q]; decide) (by rw [q]; decide) (by rw [q]; decide) (by rw [q]; decide))) (fun b q => congrArg (fun x => fldR x 6) (hkc_162 b (by rw [q]; decide) (by rw [q]; decide) (by rw [q]; decide) (by rw [q]; decide) (by rw [q]; decide) (by rw [q]; decide) (by rw [q]; decide) (by rw [q]; decide) (by rw [q]; decide) (by rw [q]; decide) (by rw [q]; decide) (by rw [q]; decide) (by rw [q]; decide))) (fun b q => congrArg (fun x => fldI x 0) (hkc_162 b (by rw [q]; decide) (by rw [q]; decide) (by rw [q]; decide) (by rw [q]; decide) (by rw [q]; decide) (by rw [q]; decide) (by rw [q]; decide) (by rw [q]; decide) (by rw [q]; decide) (by rw [q]; decide) (by rw [q]; decide) (by rw [q]; decide) (by rw [q]; decide))) (fun b q => congrArg (fun x => fldI x 12) (hkc_162 b (by rw [q]; decide) (by rw [q]; decide) (by rw [q]; decide) (by rw [q]; decide) (by rw [q]; decide) (by rw [q]; decide) (by rw [q]; decide) (by rw [q]; decide) (by rw [q]; decide) (by rw [q]; decide) (by rw [q]; decide) (by rw [q]; decide) (by rw [q]; decide)))
  have hT5 : alrel kd f_161 o1 := hT5.keep (fun b q => congrArg (fun x => fldR x 2) (hkc_162 b (by rw [q]; decide) (by rw [q]; decide) (by rw [q]; decide) (by rw [q]; decide) (by rw [q]; decide) (by rw [q]; decide) (by rw [q]; decide) (by rw [q]; decide) (by rw [q]; decide) (by rw [q]; decide) (by rw [q]; decide) (by rw [q]; decide) (by rw [q]; decide))) (fun b q => congrArg (fun x => fldR x 3) (hkc_162 b (by rw [q]; decide) (by rw [q]; decide) (by rw [q]; decide) (by rw [q]; decide) (by rw [q]; decide) (by rw [q]; decide) (by rw [q]; decide) (by rw [q]; decide) (by rw [q]; decide) (by rw [q]; decide) (by rw [q]; decide) (by rw [q]; decide) (by rw [q]; decide))) (fun b q => congrArg (fun x => fldR x 0) (hkc_162 b (by rw [q]; decide) (by rw [q]; decide) (by rw [q]; decide) (by rw [q]; decide) (by rw [q]; decide) (by rw [q]; decide) (by rw [q]; decide) (by rw [q]; decide) (by rw [q]; decide) (by rw [q]; decide) (by rw [q]; decide) (by rw [q]; decide) (by rw [q]; decide)))
  have hT_159 : drel kd 1 521 522 f_161 a_83 := hT_159.keep (fun b q => congrArg (fun x => fldI x 5) (hkc_162 b (by rw [q]; decide) (by rw [q]; decide) (by rw [q]; decide) (by rw [q]; decide) (by rw [q]; decide) (by rw [q]; decide) (by rw [q]; decide) (by rw [q]; decide) (by rw [q]; decide) (by rw [q]; decide) (by rw [q]; decide) (by rw [q]; decide) (by rw [q]; decide))) (fun b q => congrArg (fun x => fldR x 0) (hkc_162 b (by rw [q]; decide) (by rw [q]; decide) (by rw [q]; decide) (by rw [q]; decide) (by rw [q]; decide) (by rw [q]; decide) (by rw [q]; decide) (by rw [q]; decide) (by rw [q]; decide) (by rw [q]; decide) (by rw [q]; decide) (by rw [q]; decide) (by rw [q]; decide))) (fun b q => congrArg (fun x => fldR x 1) (hkc_162 b (by rw [q]; decide) (by rw [q]; decide) (by rw [q]; decide) (by rw [q]; decide) (by rw [q]; decide) (by rw [q]; decide) (by rw [q]; decide) (by rw [q]; decide) (by rw [q]; decide) (by rw [q]; decide) (by rw [q]; decide) (by rw [q]; decide) (by rw [q]; decide))) (fun b q => hkc_162 b (by rw [q]; decide) (by rw [q]; decide) (by rw [q]; decide) (by rw [q]; decide) (by rw [q]; decide) (by rw [q]; decide) (by rw [q]; decide) (by rw [q]; decide) (by rw [q]; decide) (by rw [q]; decide) (by rw [q]; decide) (by rw [q]; decide) (by rw [q]; decide)) (fun b q => hkc_162 b (by rw [q]; decide) (by rw [q]; decide) (by rw [q]; decide) (by rw [q]; decide) (by rw [q]; decide) (by rw [q]; decide) (by rw [q]; decide) (by rw [q]; decide) (by rw [q]; decide) (by rw [q]; decide) (by rw [q]; decide) (by rw [q]; decide) (by rw [q]; decide))
  obtain ⟨v_170, v_171, v_172, v_173, v_174, v_175, hfo_176, fa_177⟩ := op12_5_23_25_27_29_32 hfo_118 (hG _ mo2) ko2 (hra_163 o2 ko2) (hfa_164 o2 ko2)
  have bv_170 : (0 ≤ v_170.toInt ∧ v_170.toInt ≤ 600) := fa12_5 fa_177
  have bv_171 : (0 ≤ v_171.toInt ∧ v_171.toInt ≤ 12) := fa12_23 fa_177
  have bv_172 : (0 ≤ v_172.toInt ∧ v_172.toInt ≤ 4) := fa12_25 fa_177
  have bv_173 : (0 ≤ v_173.toInt ∧ v_173.toInt ≤ 1) := fa12_27 fa_177
  have bv_174 : (0 ≤ v_174.toInt ∧ v_174.toInt ≤ 201) := fa12_29 fa_177
  have bv_175 : (0 ≤ v_175.toInt ∧ v_175.toInt ≤ 6561) := fa12_32 fa_177
  have hqhpost_165 := hpost_165 v_26 v_170 v_50 v_174 (by rw [hfo_118]; rfl) (by rw [hfo_118]; rfl) (by rw [hfo_176]; rfl) (by rw [hfo_176]; rfl)
  refine lv_pop hx hb dL_law_341 rfl ?_
  refine lv_goto (tgt := 933) hx hb dL_law_342 (by decide) ?_
  exact kk f_161 _ _ hG hP hD hS ⟨(fun d9 h9 => by rw [hfo_168] at h9; obtain rfl := Option.some.inj h9; exact hT_158), (fun d9 h9 => by rw [hfo_168] at h9; obtain rfl := Option.some.inj h9; exact hT1), (fun r9 d9 h8 h9 => by rw [hfo_168] at h8; obtain rfl := Option.some.inj h8; rw [hfo_169] at h9; obtain rfl := Option.some.inj h9; exact hT_159), hT3, hT4, hT5, hTc_166, (fun z9 h9 => by rw [hfo_176] at h9; obtain rfl := Option.some.inj h9; omega), (fun y9 z9 h8 h9 => by rw [hfo_168] at h8; obtain rfl := Option.some.inj h8; rw [hfo_176] at h9; obtain rfl := Option.some.inj h9; omega), (fun y9 z9 h8 h9 => by rw [hfo_168] at h8; obtain rfl := Option.some.inj h8; rw [hfo_176] at h9; obtain rfl := Option.some.inj h9; omega)⟩ ls (lv_sub hl [0, 1, 2, 3] rfl)
