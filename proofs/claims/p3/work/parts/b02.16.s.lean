set_option maxHeartbeats 8000000 in
set_option maxRecDepth 100000 in
theorem s_X2_readContext_k2_k204 (l : Launch) (D : va_G) (cI cL cZ cR cG cH : ClassId) (Z : zT) (kd : Nat → Nat) (L : List Nat) (f : Nat → va_E) (hG : GI (okc cI cL cZ cR cG cH L kd) kd L f) (o0 : Nat) (mo0 : o0 ∈ L) (ko0 : kd o0 = 2) (o1 : Nat) (mo1 : o1 ∈ L) (ko1 : kd o1 = 204) (hpreo1 : ∀ (w3 : Int32), fldI (f o1) 3 = some w3 → w3.toInt ≤ 2) : mPI l D cI cL cZ cR cG cH Z yX2_readContext cX2_readContext 3 (some .boolean) 3 94 [.ref o0, .ref o1] L f (fun (r : Int32) (f9 : Nat → va_E) => GI (okc cI cL cZ cR cG cH L kd) kd L f9 ∧ (0 ≤ r.toInt ∧ r.toInt ≤ 1) ∧ (∀ b, kd b ≠ 2 → kd b ≠ 204 → kd b ≠ 205 → kd b ≠ 558 → f9 b = f b) ∧ (∀ b, kd b = 2 → fldI (f9 b) 4 = fldI (f b) 4) ∧ (∀ b, kd b = 2 → fldI (f9 b) 7 = fldI (f b) 7) ∧ (∀ b, kd b = 2 → fldI (f9 b) 8 = fldI (f b) 8) ∧ (∀ b, kd b = 204 → fldI (f9 b) 1 = fldI (f b) 1) ∧ (∀ b, kd b = 2 → fldR (f9 b) 0 = fldR (f b) 0) ∧ (∀ b, kd b = 2 → fldR (f9 b) 3 = fldR (f b) 3)) := by
  obtain ⟨dC, dI⟩ := D
  refine Met.ofW (cc := cX2_readContext) (maxL := 3) (ret := (some .boolean)) (by decide) rfl ?_
  intro p e s m args below meth c s₁ B hml hv
  obtain ⟨rfl, hP, hK, hD0, hN, hZ⟩ := hv
  have hx := B.exec
  have hb := B.bytes
  have hr := B.returns
  have hU : ∀ w ∈ wsU, w.before _ s = true := fun w h => atoms_spec (ws := wU yX2_readContext cX2_readContext 3 (some .boolean)) B.pre w (List.mem_cons_of_mem _ h)
  have hown : s.vm.findClass RX2 = some m.cls := findClass_of_methodNamed B.named
  have hlocks := B.notSynchronized
  have hD := pl_in hD0
  have hS : va_S (fun q => q ∈ L) s.heap s.heap [] := va_S.rf
  have hl := lv_entry ([.ref o0, .ref o1]) (n := 3) (Nat.le_of_ble_eq_true rfl)
  rw [lg_entry_eq]
  generalize (lg_sl ([.ref o0, .ref o1]) ++ List.replicate (3 - (lg_sl ([.ref o0, .ref o1])).length) Slot.unset).toArray = ls at hl ⊢
  have hl : lv_has ls 3 [(0, .ref o0), (1, .ref o1)] := hl
  have hfr0 : ∀ b, kd b ≠ 2 → kd b ≠ 204 → kd b ≠ 205 → kd b ≠ 558 → f b = f b := fun _ _ _ _ _ => rfl
  have hfr2_4 : ∀ b, kd b = 2 → fldI (f b) 4 = fldI (f b) 4 := fun _ _ => rfl
  have hfr2_7 : ∀ b, kd b = 2 → fldI (f b) 7 = fldI (f b) 7 := fun _ _ => rfl
  have hfr2_8 : ∀ b, kd b = 2 → fldI (f b) 8 = fldI (f b) 8 := fun _ _ => rfl
  have hfr204_1 : ∀ b, kd b = 204 → fldI (f b) 1 = fldI (f b) 1 := fun _ _ => rfl
  have hrr2_0 : ∀ b, kd b = 2 → fldR (f b) 0 = fldR (f b) 0 := fun _ _ => rfl
  have hrr2_3 : ∀ b, kd b = 2 → fldR (f b) 3 = fldR (f b) 3 := fun _ _ => rfl
  refine lv_aload_n hx hb dX2_readContext_0 rfl (lv_at hl 1 rfl) ?_
  obtain ⟨v_2, v_3, v_4, v_5, a_6, a_7, a_8, a_9, v_10, v_11, v_12, hfo_1, bv_2, bv_3, bv_4, bv_5, ⟨ma_6, ka_6⟩, ⟨ma_7, ka_7⟩, ⟨ma_8, ka_8⟩, ⟨ma_9, ka_9⟩⟩ := un_204 (hG _ mo1) ko1
  have bv_10 : ((-2147483648) ≤ v_10.toInt ∧ v_10.toInt ≤ 2147483647) := ⟨i32_lo _, i32_hi _⟩
  have bv_11 : ((-2147483648) ≤ v_11.toInt ∧ v_11.toInt ≤ 2147483647) := ⟨i32_lo _, i32_hi _⟩
  have bv_12 : ((-2147483648) ≤ v_12.toInt ∧ v_12.toInt ≤ 2147483647) := ⟨i32_lo _, i32_hi _⟩
  have hpo1 := hpreo1 v_5 (by rw [hfo_1]; rfl)
  refine tk_getP (D := (dC, dI)) (ci := 4) (v := .int v_5) (C := RX4) (T := TX4) (N := 11) hx hb hU inlX4 hown hK hP mo1 hfo_1 rfl 3 (by decide) (hU _ wd_402) (fun _ h9 => h9) rfl dX2_readContext_1 ?_
  refine lv_istore_n (lv' := [(2, .int v_5), (0, .ref o0), (1, .ref o1)]) hx hb dX2_readContext_4 rfl hl (by decide) rfl (fun ls hl => ?_)
  refine lv_aload_n hx hb dX2_readContext_5 rfl (lv_at hl 2 rfl) ?_
  refine tk_getP (D := (dC, dI)) (ci := 4) (v := .ref a_6) (C := RX4) (T := TX4) (N := 11) hx hb hU inlX4 hown hK hP mo1 hfo_1 rfl 4 (by decide) (hU _ wd_436) (fun _ h9 => h9) rfl dX2_readContext_6 ?_
  refine lv_iload_n hx hb dX2_readContext_9 rfl (lv_at hl 0 rfl) ?_
  obtain ⟨a_14, a_15, a_16, v_17, v_18, v_19, hfo_13, ⟨ma_14, ka_14⟩, ⟨ma_15, ka_15⟩, ⟨ma_16, ka_16⟩⟩ := un_205 (hG _ ma_6) ka_6
  have bv_17 : ((-2147483648) ≤ v_17.toInt ∧ v_17.toInt ≤ 2147483647) := ⟨i32_lo _, i32_hi _⟩
  have bv_18 : ((-2147483648) ≤ v_18.toInt ∧ v_18.toInt ≤ 2147483647) := ⟨i32_lo _, i32_hi _⟩
  have bv_19 : ((-2147483648) ≤ v_19.toInt ∧ v_19.toInt ≤ 2147483647) := ⟨i32_lo _, i32_hi _⟩
  refine tk_VvP (As := [.int v_5]) (rest := []) (n := 1) hx hb hml hown hU hN hZ (s_X5_openContext_k205 l (dC, dI) cI cL cZ cR cG cH Z kd L f hG a_6 ma_6 ka_6 v_5) wd_438 wd_439 wd_440 wd_102 wd_441 (by decide +kernel) ⟨Nat.le_of_ble_eq_true rfl, Nat.le_of_ble_eq_true rfl⟩ hK hP hD hS ma_6 hfo_13 5 rfl rfl rfl hl.1 rfl (Nat.le_of_ble_eq_true rfl) dX2_readContext_10 ⟨Nat.le_of_ble_eq_true rfl, Nat.le_of_ble_eq_true rfl⟩ (fun f_21 H locs hw hP hD hS => ?_)
  obtain ⟨hG, hkc_22⟩ := hw
  have hfo_24 : f_21 o1 = .inr (4, [.int v_2, .int v_3, .int v_4, .int v_5, .ref a_6, .ref a_7, .ref a_8, .ref a_9, .int v_10, .int v_11, .int v_12]) := by rw [hkc_22 o1 (by rw [ko1]; decide)]; exact hfo_1
  have hfr0 : ∀ b, kd b ≠ 2 → kd b ≠ 204 → kd b ≠ 205 → kd b ≠ 558 → f_21 b = f b := fun b q2 q204 q205 q558 => (hkc_22 b q205).trans (hfr0 b q2 q204 q205 q558)
  have hfr2_4 : ∀ b, kd b = 2 → fldI (f_21 b) 4 = fldI (f b) 4 := fun b kb => (congrArg (fun x => fldI x 4) (hkc_22 b (by rw [kb]; decide))).trans (hfr2_4 b kb)
  have hfr2_7 : ∀ b, kd b = 2 → fldI (f_21 b) 7 = fldI (f b) 7 := fun b kb => (congrArg (fun x => fldI x 7) (hkc_22 b (by rw [kb]; decide))).trans (hfr2_7 b kb)
  have hfr2_8 : ∀ b, kd b = 2 → fldI (f_21 b) 8 = fldI (f b) 8 := fun b kb => (congrArg (fun x => fldI x 8) (hkc_22 b (by rw [kb]; decide))).trans (hfr2_8 b kb)
  have hfr204_1 : ∀ b, kd b = 204 → fldI (f_21 b) 1 = fldI (f b) 1 := fun b kb => (congrArg (fun x => fldI x 1) (hkc_22 b (by rw [kb]; decide))).trans (hfr204_1 b kb)
  have hrr2_0 : ∀ b, kd b = 2 → fldR (f_21 b) 0 = fldR (f b) 0 := fun b kb => (congrArg (fun x => fldR x 0) (hkc_22 b (by rw [kb]; decide))).trans (hrr2_0 b kb)
  have hrr2_3 : ∀ b, kd b = 2 → fldR (f_21 b) 3 = fldR (f b) 3 := fun b kb => (congrArg (fun x => fldR x 3) (hkc_22 b (by rw [kb]; decide))).trans (hrr2_3 b kb)
  refine lv_aload_n hx hb dX2_readContext_13 rfl (lv_at hl 2 rfl) ?_
  refine tk_getP (D := (dC, dI)) (ci := 4) (v := .ref a_7) (C := RX4) (T := TX4) (N := 11) hx hb hU inlX4 hown hK hP mo1 hfo_24 rfl 5 (by decide) (hU _ wd_437) (fun _ h9 => h9) rfl dX2_readContext_14 ?_
  refine lv_iload_n hx hb dX2_readContext_17 rfl (lv_at hl 0 rfl) ?_
  obtain ⟨a_26, a_27, a_28, v_29, v_30, v_31, hfo_25, ⟨ma_26, ka_26⟩, ⟨ma_27, ka_27⟩, ⟨ma_28, ka_28⟩⟩ := un_205 (hG _ ma_7) ka_7
  have bv_29 : ((-2147483648) ≤ v_29.toInt ∧ v_29.toInt ≤ 2147483647) := ⟨i32_lo _, i32_hi _⟩
  have bv_30 : ((-2147483648) ≤ v_30.toInt ∧ v_30.toInt ≤ 2147483647) := ⟨i32_lo _, i32_hi _⟩
  have bv_31 : ((-2147483648) ≤ v_31.toInt ∧ v_31.toInt ≤ 2147483647) := ⟨i32_lo _, i32_hi _⟩
  refine tk_VvP (As := [.int v_5]) (rest := []) (n := 1) hx hb hml hown hU hN hZ (s_X5_openContext_k205 l (dC, dI) cI cL cZ cR cG cH Z kd L f_21 hG a_7 ma_7 ka_7 v_5) wd_438 wd_439 wd_440 wd_102 wd_441 (by decide +kernel) ⟨Nat.le_of_ble_eq_true rfl, Nat.le_of_ble_eq_true rfl⟩ hK hP hD hS ma_7 hfo_25 5 rfl rfl rfl hl.1 rfl (Nat.le_of_ble_eq_true rfl) dX2_readContext_18 ⟨Nat.le_of_ble_eq_true rfl, Nat.le_of_ble_eq_true rfl⟩ (fun f_33 H locs hw hP hD hS => ?_)
  obtain ⟨hG, hkc_34⟩ := hw
  have hfo_36 : f_33 o1 = .inr (4, [.int v_2, .int v_3, .int v_4, .int v_5, .ref a_6, .ref a_7, .ref a_8, .ref a_9, .int v_10, .int v_11, .int v_12]) := by rw [hkc_34 o1 (by rw [ko1]; decide)]; exact hfo_24
  have hfr0 : ∀ b, kd b ≠ 2 → kd b ≠ 204 → kd b ≠ 205 → kd b ≠ 558 → f_33 b = f b := fun b q2 q204 q205 q558 => (hkc_34 b q205).trans (hfr0 b q2 q204 q205 q558)
  have hfr2_4 : ∀ b, kd b = 2 → fldI (f_33 b) 4 = fldI (f b) 4 := fun b kb => (congrArg (fun x => fldI x 4) (hkc_34 b (by rw [kb]; decide))).trans (hfr2_4 b kb)
  have hfr2_7 : ∀ b, kd b = 2 → fldI (f_33 b) 7 = fldI (f b) 7 := fun b kb => (congrArg (fun x => fldI x 7) (hkc_34 b (by rw [kb]; decide))).trans (hfr2_7 b kb)
  have hfr2_8 : ∀ b, kd b = 2 → fldI (f_33 b) 8 = fldI (f b) 8 := fun b kb => (congrArg (fun x => fldI x 8) (hkc_34 b (by rw [kb]; decide))).trans (hfr2_8 b kb)
  have hfr204_1 : ∀ b, kd b = 204 → fldI (f_33 b) 1 = fldI (f b) 1 := fun b kb => (congrArg (fun x => fldI x 1) (hkc_34 b (by rw [kb]; decide))).trans (hfr204_1 b kb)
  have hrr2_0 : ∀ b, kd b = 2 → fldR (f_33 b) 0 = fldR (f b) 0 := fun b kb => (congrArg (fun x => fldR x 0) (hkc_34 b (by rw [kb]; decide))).trans (hrr2_0 b kb)
  have hrr2_3 : ∀ b, kd b = 2 → fldR (f_33 b) 3 = fldR (f b) 3 := fun b kb => (congrArg (fun x => fldR x 3) (hkc_34 b (by rw [kb]; decide))).trans (hrr2_3 b kb)
  refine lv_aload_n hx hb dX2_readContext_21 rfl (lv_at hl 1 rfl) ?_
  refine lv_bipush (v := 35) hx hb dX2_readContext_22 (by decide) ?_
  obtain ⟨a_38, v_39, v_40, a_41, v_42, v_43, v_44, v_45, v_46, v_47, hfo_37, ⟨ma_38, ka_38⟩, ⟨ma_41, ka_41⟩, bv_42, bv_43, bv_44, bv_45, bv_46⟩ := un_2 (hG _ mo0) ko0
  have bv_39 : ((-2147483648) ≤ v_39.toInt ∧ v_39.toInt ≤ 2147483647) := ⟨i32_lo _, i32_hi _⟩
  have bv_40 : ((-2147483648) ≤ v_40.toInt ∧ v_40.toInt ≤ 2147483647) := ⟨i32_lo _, i32_hi _⟩
  have bv_47 : ((-2147483648) ≤ v_47.toInt ∧ v_47.toInt ≤ 2147483647) := ⟨i32_lo _, i32_hi _⟩
  refine tk_ViP (As := [.int 35]) (rest := []) (n := 1) hx hb hml hown hU hN hZ (s_X2_skipIf_k2 l (dC, dI) cI cL cZ cR cG cH Z kd L f_33 hG o0 mo0 ko0 35 (by decide)) wd_384 wd_385 wd_386 wd_33 wd_387 (by decide +kernel) ⟨Nat.le_of_ble_eq_true rfl, Nat.le_of_ble_eq_true rfl⟩ hK hP hD hS mo0 hfo_37 2 rfl rfl rfl hl.1 rfl (Nat.le_of_ble_eq_true rfl) dX2_readContext_24 ⟨Nat.le_of_ble_eq_true rfl, Nat.le_of_ble_eq_true rfl⟩ (fun x_48 f_49 H locs hw hP hD hS => ?_)
  obtain ⟨hG, bx_48, hkc_50, hfc_51, hfc_52, hfc_53, hrc_54, hrc_55, hpost_56⟩ := hw
  have hfo_58 : f_49 o1 = .inr (4, [.int v_2, .int v_3, .int v_4, .int v_5, .ref a_6, .ref a_7, .ref a_8, .ref a_9, .int v_10, .int v_11, .int v_12]) := by rw [hkc_50 o1 (by rw [ko1]; decide)]; exact hfo_36
  have hfr0 : ∀ b, kd b ≠ 2 → kd b ≠ 204 → kd b ≠ 205 → kd b ≠ 558 → f_49 b = f b := fun b q2 q204 q205 q558 => (hkc_50 b q2).trans (hfr0 b q2 q204 q205 q558)
  have hfr2_4 : ∀ b, kd b = 2 → fldI (f_49 b) 4 = fldI (f b) 4 := fun b kb => (hfc_51 b kb).trans (hfr2_4 b kb)
  have hfr2_7 : ∀ b, kd b = 2 → fldI (f_49 b) 7 = fldI (f b) 7 := fun b kb => (hfc_52 b kb).trans (hfr2_7 b kb)
  have hfr2_8 : ∀ b, kd b = 2 → fldI (f_49 b) 8 = fldI (f b) 8 := fun b kb => (hfc_53 b kb).trans (hfr2_8 b kb)
  have hfr204_1 : ∀ b, kd b = 204 → fldI (f_49 b) 1 = fldI (f b) 1 := fun b kb => (congrArg (fun x => fldI x 1) (hkc_50 b (by rw [kb]; decide))).trans (hfr204_1 b kb)
  have hrr2_0 : ∀ b, kd b = 2 → fldR (f_49 b) 0 = fldR (f b) 0 := fun b kb => (hrc_54 b kb).trans (hrr2_0 b kb)
  have hrr2_3 : ∀ b, kd b = 2 → fldR (f_49 b) 3 = fldR (f b) 3 := fun b kb => (hrc_55 b kb).trans (hrr2_3 b kb)
  obtain ⟨a_60, v_61, v_62, a_63, v_64, v_65, v_66, v_67, v_68, v_69, hfo_59, ⟨ma_60, ka_60⟩, ⟨ma_63, ka_63⟩, bv_64, bv_65, bv_66, bv_67, bv_68⟩ := un_2 (hG _ mo0) ko0
  have bv_61 : ((-2147483648) ≤ v_61.toInt ∧ v_61.toInt ≤ 2147483647) := ⟨i32_lo _, i32_hi _⟩
  have bv_62 : ((-2147483648) ≤ v_62.toInt ∧ v_62.toInt ≤ 2147483647) := ⟨i32_lo _, i32_hi _⟩
  have bv_69 : ((-2147483648) ≤ v_69.toInt ∧ v_69.toInt ≤ 2147483647) := ⟨i32_lo _, i32_hi _⟩
  obtain rfl : v_42 = v_64 := by have hk9 := hfc_51 o0 ko0; rw [hfo_59, hfo_37] at hk9; exact (Option.some.inj hk9).symm
  obtain rfl : v_45 = v_67 := by have hk9 := hfc_52 o0 ko0; rw [hfo_59, hfo_37] at hk9; exact (Option.some.inj hk9).symm
  obtain rfl : v_46 = v_68 := by have hk9 := hfc_53 o0 ko0; rw [hfo_59, hfo_37] at hk9; exact (Option.some.inj hk9).symm
  obtain rfl : a_38 = a_60 := by have hk9 := hrc_54 o0 ko0; rw [hfo_59, hfo_37] at hk9; exact (Option.some.inj hk9).symm
  obtain rfl : a_41 = a_63 := by have hk9 := hrc_55 o0 ko0; rw [hfo_59, hfo_37] at hk9; exact (Option.some.inj hk9).symm
  have hqhpost_56 := hpost_56 v_43 v_65 (by rw [hfo_37]; rfl) (by rw [hfo_59]; rfl)
  try rw [ti_35] at hqhpost_56
  have hcut_74 : ∀ (f_71 : Nat → va_E), GI (okc cI cL cZ cR cG cH L kd) kd L f_71 → ∀ (H : Heap) (locs : List Loc), va_P (dC, dI) vwCl (va_pl L f_71) H → va_S (fun q => q ∈ L) s.heap H locs → va_D (fun q => q ∈ L) (va_pl L f_71) → (∀ b, kd b ≠ 2 → kd b ≠ 204 → kd b ≠ 205 → kd b ≠ 558 → f_71 b = f b) → (∀ b, kd b = 2 → fldI (f_71 b) 4 = fldI (f b) 4) → (∀ b, kd b = 2 → fldI (f_71 b) 7 = fldI (f b) 7) → (∀ b, kd b = 2 → fldI (f_71 b) 8 = fldI (f b) 8) → (∀ b, kd b = 204 → fldI (f_71 b) 1 = fldI (f b) 1) → (∀ b, kd b = 2 → fldR (f_71 b) 0 = fldR (f b) 0) → (∀ b, kd b = 2 → fldR (f_71 b) 3 = fldR (f b) 3) → (f_71 o1 = .inr (4, [.int v_2, .int v_3, .int v_4, .int v_5, .ref a_6, .ref a_7, .ref a_8, .ref a_9, .int v_10, .int v_11, .int v_12])) → (f_71 o0 = .inr (2, [.ref a_38, .int v_61, .int v_62, .ref a_41, .int v_42, .int v_65, .int v_66, .int v_45, .int v_46, .int v_69])) → ∀ (ls : Array Slot), lv_has ls 3 [(2, .int v_5), (0, .ref o0), (1, .ref o1)] → W p l e (headSpec (wU yX2_readContext cX2_readContext 3 (some .boolean)) { frames := 3, cells := 0, slots := 0, locals := 94 }).room s m [.ref o0, .ref o1].toArray below meth c H locs 0 0 (MQ below (va_Qi (fun (r : Int32) (f9 : Nat → va_E) => GI (okc cI cL cZ cR cG cH L kd) kd L f9 ∧ (0 ≤ r.toInt ∧ r.toInt ≤ 1) ∧ (∀ b, kd b ≠ 2 → kd b ≠ 204 → kd b ≠ 205 → kd b ≠ 558 → f9 b = f b) ∧ (∀ b, kd b = 2 → fldI (f9 b) 4 = fldI (f b) 4) ∧ (∀ b, kd b = 2 → fldI (f9 b) 7 = fldI (f b) 7) ∧ (∀ b, kd b = 2 → fldI (f9 b) 8 = fldI (f b) 8) ∧ (∀ b, kd b = 204 → fldI (f9 b) 1 = fldI (f b) 1) ∧ (∀ b, kd b = 2 → fldR (f9 b) 0 = fldR (f b) 0) ∧ (∀ b, kd b = 2 → fldR (f9 b) 3 = fldR (f b) 3)) (qP (dC, dI) cI cL cZ cR cG cH L) (fun q => q ∈ L)) [.ref o0, .ref o1].toArray s 0 0 (fun q => q ∈ L)) (F0 m 38 ls []) := by
    intro f_71 hG H locs hP hS hD hfr0 hfr2_4 hfr2_7 hfr2_8 hfr204_1 hrr2_0 hrr2_3 hfo_72 hfo_73 ls hl
    refine lv_aload_n hx hb dX2_readContext_38 rfl (lv_at hl 1 rfl) ?_
    refine lv_aload_n hx hb dX2_readContext_39 rfl (lv_at hl 2 rfl) ?_
    refine tk_getP (D := (dC, dI)) (ci := 4) (v := .ref a_6) (C := RX4) (T := TX4) (N := 11) hx hb hU inlX4 hown hK hP mo1 hfo_72 rfl 4 (by decide) (hU _ wd_436) (fun _ h9 => h9) rfl dX2_readContext_40 ?_
    refine lv_iload_n hx hb dX2_readContext_43 rfl (lv_at hl 0 rfl) ?_
    refine tk_ViP (As := [.ref a_6, .int v_5]) (rest := []) (n := 2) hx hb hml hown hU hN hZ (s_X2_readItems_k2_k205 l (dC, dI) cI cL cZ cR cG cH Z kd L f_71 hG o0 mo0 ko0 a_6 ma_6 ka_6 v_5 (by constructor <;> omega)) wd_446 wd_447 wd_448 wd_33 wd_449 (by decide +kernel) ⟨Nat.le_of_ble_eq_true rfl, Nat.le_of_ble_eq_true rfl⟩ hK hP hD hS mo0 hfo_73 2 rfl rfl rfl hl.1 rfl (Nat.le_of_ble_eq_true rfl) dX2_readContext_44 ⟨Nat.le_of_ble_eq_true rfl, Nat.le_of_ble_eq_true rfl⟩ (fun x_75 f_76 H locs hw hP hD hS => ?_)
    obtain ⟨hG, bx_75, hkc_77, hfc_78, hfc_79, hfc_80, hrc_81, hrc_82⟩ := hw
    have hfo_84 : f_76 o1 = .inr (4, [.int v_2, .int v_3, .int v_4, .int v_5, .ref a_6, .ref a_7, .ref a_8, .ref a_9, .int v_10, .int v_11, .int v_12]) := by rw [hkc_77 o1 (by rw [ko1]; decide) (by rw [ko1]; decide) (by rw [ko1]; decide)]; exact hfo_72
    have hfr0 : ∀ b, kd b ≠ 2 → kd b ≠ 204 → kd b ≠ 205 → kd b ≠ 558 → f_76 b = f b := fun b q2 q204 q205 q558 => (hkc_77 b q2 q205 q558).trans (hfr0 b q2 q204 q205 q558)
    have hfr2_4 : ∀ b, kd b = 2 → fldI (f_76 b) 4 = fldI (f b) 4 := fun b kb => (hfc_78 b kb).trans (hfr2_4 b kb)
    have hfr2_7 : ∀ b, kd b = 2 → fldI (f_76 b) 7 = fldI (f b) 7 := fun b kb => (hfc_79 b kb).trans (hfr2_7 b kb)
    have hfr2_8 : ∀ b, kd b = 2 → fldI (f_76 b) 8 = fldI (f b) 8 := fun b kb => (hfc_80 b kb).trans (hfr2_8 b kb)
    have hfr204_1 : ∀ b, kd b = 204 → fldI (f_76 b) 1 = fldI (f b) 1 := fun b kb => (congrArg (fun x => fldI x 1) (hkc_77 b (by rw [kb]; decide) (by rw [kb]; decide) (by rw [kb]; decide))).trans (hfr204_1 b kb)
    have hrr2_0 : ∀ b, kd b = 2 → fldR (f_76 b) 0 = fldR (f b) 0 := fun b kb => (hrc_81 b kb).trans (hrr2_0 b kb)
    have hrr2_3 : ∀ b, kd b = 2 → fldR (f_76 b) 3 = fldR (f b) 3 := fun b kb => (hrc_82 b kb).trans (hrr2_3 b kb)
    obtain ⟨a_86, v_87, v_88, a_89, v_90, v_91, v_92, v_93, v_94, v_95, hfo_85, ⟨ma_86, ka_86⟩, ⟨ma_89, ka_89⟩, bv_90, bv_91, bv_92, bv_93, bv_94⟩ := un_2 (hG _ mo0) ko0
    have bv_87 : ((-2147483648) ≤ v_87.toInt ∧ v_87.toInt ≤ 2147483647) := ⟨i32_lo _, i32_hi _⟩
    have bv_88 : ((-2147483648) ≤ v_88.toInt ∧ v_88.toInt ≤ 2147483647) := ⟨i32_lo _, i32_hi _⟩
    have bv_95 : ((-2147483648) ≤ v_95.toInt ∧ v_95.toInt ≤ 2147483647) := ⟨i32_lo _, i32_hi _⟩
    obtain rfl : v_42 = v_90 := by have hk9 := hfc_78 o0 ko0; rw [hfo_85, hfo_73] at hk9; exact (Option.some.inj hk9).symm
    obtain rfl : v_45 = v_93 := by have hk9 := hfc_79 o0 ko0; rw [hfo_85, hfo_73] at hk9; exact (Option.some.inj hk9).symm
    obtain rfl : v_46 = v_94 := by have hk9 := hfc_80 o0 ko0; rw [hfo_85, hfo_73] at hk9; exact (Option.some.inj hk9).symm
    obtain rfl : a_38 = a_86 := by have hk9 := hrc_81 o0 ko0; rw [hfo_85, hfo_73] at hk9; exact (Option.some.inj hk9).symm
    obtain rfl : a_41 = a_89 := by have hk9 := hrc_82 o0 ko0; rw [hfo_85, hfo_73] at hk9; exact (Option.some.inj hk9).symm
    refine lv_if_eq (tgt := 71) hx hb dX2_readContext_47 (by decide) (fun c_96 => ?_) (fun c_96 => ?_)
    · skip
      rw [← Int32.toInt_inj, ti_0] at c_96
      refine lv_iconst (v := 0) hx hb dX2_readContext_71 (by decide) ?_
      exact W.zret (v := 0) (ty := .boolean) hx hb hr rfl (fun t ht hW => ⟨⟨0, f_76, rfl, ⟨hG, (by decide), hfr0, hfr2_4, hfr2_7, hfr2_8, hfr204_1, hrr2_0, hrr2_3⟩, by rw [ht]; exact hP, va_K.moved hW.alike hK, pl_in hD⟩, hS.F ht⟩) hS.2.2 dX2_readContext_72
    · skip
      rw [← Int32.toInt_inj, ti_0] at c_96
      refine lv_aload_n hx hb dX2_readContext_50 rfl (lv_at hl 1 rfl) ?_
      refine lv_bipush (v := 95) hx hb dX2_readContext_51 (by decide) ?_
      refine tk_ViP (As := [.int 95]) (rest := []) (n := 1) hx hb hml hown hU hN hZ (s_X2_expect_k2 l (dC, dI) cI cL cZ cR cG cH Z kd L f_76 hG o0 mo0 ko0 95 (by decide)) wd_380 wd_381 wd_382 wd_33 wd_383 (by decide +kernel) ⟨Nat.le_of_ble_eq_true rfl, Nat.le_of_ble_eq_true rfl⟩ hK hP hD hS mo0 hfo_85 2 rfl rfl rfl hl.1 rfl (Nat.le_of_ble_eq_true rfl) dX2_readContext_53 ⟨Nat.le_of_ble_eq_true rfl, Nat.le_of_ble_eq_true rfl⟩ (fun x_97 f_98 H locs hw hP hD hS => ?_)
      obtain ⟨hG, bx_97, hkc_99, hfc_100, hfc_101, hfc_102, hrc_103, hrc_104, hpost_105⟩ := hw
      have hfo_107 : f_98 o1 = .inr (4, [.int v_2, .int v_3, .int v_4, .int v_5, .ref a_6, .ref a_7, .ref a_8, .ref a_9, .int v_10, .int v_11, .int v_12]) := by rw [hkc_99 o1 (by rw [ko1]; decide)]; exact hfo_84
      have hfr0 : ∀ b, kd b ≠ 2 → kd b ≠ 204 → kd b ≠ 205 → kd b ≠ 558 → f_98 b = f b := fun b q2 q204 q205 q558 => (hkc_99 b q2).trans (hfr0 b q2 q204 q205 q558)
      have hfr2_4 : ∀ b, kd b = 2 → fldI (f_98 b) 4 = fldI (f b) 4 := fun b kb => (hfc_100 b kb).trans (hfr2_4 b kb)
      have hfr2_7 : ∀ b, kd b = 2 → fldI (f_98 b) 7 = fldI (f b) 7 := fun b kb => (hfc_101 b kb).trans (hfr2_7 b kb)
      have hfr2_8 : ∀ b, kd b = 2 → fldI (f_98 b) 8 = fldI (f b) 8 := fun b kb => (hfc_102 b kb).trans (hfr2_8 b kb)
      have hfr204_1 : ∀ b, kd b = 204 → fldI (f_98 b) 1 = fldI (f b) 1 := fun b kb => (congrArg (fun x => fldI x 1) (hkc_99 b (by rw [kb]; decide))).trans (hfr204_1 b kb)
      have hrr2_0 : ∀ b, kd b = 2 → fldR (f_98 b) 0 = fldR (f b) 0 := fun b kb => (hrc_103 b kb).trans (hrr2_0 b kb)
      have hrr2_3 : ∀ b, kd b = 2 → fldR (f_98 b) 3 = fldR (f b) 3 := fun b kb => (hrc_104 b kb).trans (hrr2_3 b kb)
      obtain ⟨a_109, v_110, v_111, a_112, v_113, v_114, v_115, v_116, v_117, v_118, hfo_108, ⟨ma_109, ka_109⟩, ⟨ma_112, ka_112⟩, bv_113, bv_114, bv_115, bv_116, bv_117⟩ := un_2 (hG _ mo0) ko0
      have bv_110 : ((-2147483648) ≤ v_110.toInt ∧ v_110.toInt ≤ 2147483647) := ⟨i32_lo _, i32_hi _⟩
      have bv_111 : ((-2147483648) ≤ v_111.toInt ∧ v_111.toInt ≤ 2147483647) := ⟨i32_lo _, i32_hi _⟩
      have bv_118 : ((-2147483648) ≤ v_118.toInt ∧ v_118.toInt ≤ 2147483647) := ⟨i32_lo _, i32_hi _⟩
      obtain rfl : v_42 = v_113 := by have hk9 := hfc_100 o0 ko0; rw [hfo_108, hfo_85] at hk9; exact (Option.some.inj hk9).symm
      obtain rfl : v_45 = v_116 := by have hk9 := hfc_101 o0 ko0; rw [hfo_108, hfo_85] at hk9; exact (Option.some.inj hk9).symm
      obtain rfl : v_46 = v_117 := by have hk9 := hfc_102 o0 ko0; rw [hfo_108, hfo_85] at hk9; exact (Option.some.inj hk9).symm
      obtain rfl : a_38 = a_109 := by have hk9 := hrc_103 o0 ko0; rw [hfo_108, hfo_85] at hk9; exact (Option.some.inj hk9).symm
      obtain rfl : a_41 = a_112 := by have hk9 := hrc_104 o0 ko0; rw [hfo_108, hfo_85] at hk9; exact (Option.some.inj hk9).symm
      have hqhpost_105 := hpost_105 v_91 v_114 (by rw [hfo_85]; rfl) (by rw [hfo_108]; rfl)
      try rw [ti_95] at hqhpost_105
      refine lv_if_eq (tgt := 71) hx hb dX2_readContext_56 (by decide) (fun c_119 => ?_) (fun c_119 => ?_)
      · skip
        rw [← Int32.toInt_inj, ti_0] at c_119
        refine lv_iconst (v := 0) hx hb dX2_readContext_71 (by decide) ?_
        exact W.zret (v := 0) (ty := .boolean) hx hb hr rfl (fun t ht hW => ⟨⟨0, f_98, rfl, ⟨hG, (by decide), hfr0, hfr2_4, hfr2_7, hfr2_8, hfr204_1, hrr2_0, hrr2_3⟩, by rw [ht]; exact hP, va_K.moved hW.alike hK, pl_in hD⟩, hS.F ht⟩) hS.2.2 dX2_readContext_72
      · skip
        rw [← Int32.toInt_inj, ti_0] at c_119
        refine lv_aload_n hx hb dX2_readContext_59 rfl (lv_at hl 1 rfl) ?_
        refine lv_aload_n hx hb dX2_readContext_60 rfl (lv_at hl 2 rfl) ?_
        refine tk_getP (D := (dC, dI)) (ci := 4) (v := .ref a_7) (C := RX4) (T := TX4) (N := 11) hx hb hU inlX4 hown hK hP mo1 hfo_107 rfl 5 (by decide) (hU _ wd_437) (fun _ h9 => h9) rfl dX2_readContext_61 ?_
        refine lv_iload_n hx hb dX2_readContext_64 rfl (lv_at hl 0 rfl) ?_
        refine tk_ViP (As := [.ref a_7, .int v_5]) (rest := []) (n := 2) hx hb hml hown hU hN hZ (s_X2_readItems_k2_k205 l (dC, dI) cI cL cZ cR cG cH Z kd L f_98 hG o0 mo0 ko0 a_7 ma_7 ka_7 v_5 (by constructor <;> omega)) wd_446 wd_447 wd_448 wd_33 wd_449 (by decide +kernel) ⟨Nat.le_of_ble_eq_true rfl, Nat.le_of_ble_eq_true rfl⟩ hK hP hD hS mo0 hfo_108 2 rfl rfl rfl hl.1 rfl (Nat.le_of_ble_eq_true rfl) dX2_readContext_65 ⟨Nat.le_of_ble_eq_true rfl, Nat.le_of_ble_eq_true rfl⟩ (fun x_120 f_121 H locs hw hP hD hS => ?_)
        obtain ⟨hG, bx_120, hkc_122, hfc_123, hfc_124, hfc_125, hrc_126, hrc_127⟩ := hw
        have hfo_129 : f_121 o1 = .inr (4, [.int v_2, .int v_3, .int v_4, .int v_5, .ref a_6, .ref a_7, .ref a_8, .ref a_9, .int v_10, .int v_11, .int v_12]) := by rw [hkc_122 o1 (by rw [ko1]; decide) (by rw [ko1]; decide) (by rw [ko1]; decide)]; exact hfo_107
        have hfr0 : ∀ b, kd b ≠ 2 → kd b ≠ 204 → kd b ≠ 205 → kd b ≠ 558 → f_121 b = f b := fun b q2 q204 q205 q558 => (hkc_122 b q2 q205 q558).trans (hfr0 b q2 q204 q205 q558)
        have hfr2_4 : ∀ b, kd b = 2 → fldI (f_121 b) 4 = fldI (f b) 4 := fun b kb => (hfc_123 b kb).trans (hfr2_4 b kb)
        have hfr2_7 : ∀ b, kd b = 2 → fldI (f_121 b) 7 = fldI (f b) 7 := fun b kb => (hfc_124 b kb).trans (hfr2_7 b kb)
        have hfr2_8 : ∀ b, kd b = 2 → fldI (f_121 b) 8 = fldI (f b) 8 := fun b kb => (hfc_125 b kb).trans (hfr2_8 b kb)
        have hfr204_1 : ∀ b, kd b = 204 → fldI (f_121 b) 1 = fldI (f b) 1 := fun b kb => (congrArg (fun x => fldI x 1) (hkc_122 b (by rw [kb]; decide) (by rw [kb]; decide) (by rw [kb]; decide))).trans (hfr204_1 b kb)
        have hrr2_0 : ∀ b, kd b = 2 → fldR (f_121 b) 0 = fldR (f b) 0 := fun b kb => (hrc_126 b kb).trans (hrr2_0 b kb)
        have hrr2_3 : ∀ b, kd b = 2 → fldR (f_121 b) 3 = fldR (f b) 3 := fun b kb => (hrc_127 b kb).trans (hrr2_3 b kb)
        obtain ⟨a_131, v_132, v_133, a_134, v_135, v_136, v_137, v_138, v_139, v_140, hfo_130, ⟨ma_131, ka_131⟩, ⟨ma_134, ka_134⟩, bv_135, bv_136, bv_137, bv_138, bv_139⟩ := un_2 (hG _ mo0) ko0
        have bv_132 : ((-2147483648) ≤ v_132.toInt ∧ v_132.toInt ≤ 2147483647) := ⟨i32_lo _, i32_hi _⟩
        have bv_133 : ((-2147483648) ≤ v_133.toInt ∧ v_133.toInt ≤ 2147483647) := ⟨i32_lo _, i32_hi _⟩
        have bv_140 : ((-2147483648) ≤ v_140.toInt ∧ v_140.toInt ≤ 2147483647) := ⟨i32_lo _, i32_hi _⟩
        obtain rfl : v_42 = v_135 := by have hk9 := hfc_123 o0 ko0; rw [hfo_130, hfo_108] at hk9; exact (Option.some.inj hk9).symm
        obtain rfl : v_45 = v_138 := by have hk9 := hfc_124 o0 ko0; rw [hfo_130, hfo_108] at hk9; exact (Option.some.inj hk9).symm
        obtain rfl : v_46 = v_139 := by have hk9 := hfc_125 o0 ko0; rw [hfo_130, hfo_108] at hk9; exact (Option.some.inj hk9).symm
        obtain rfl : a_38 = a_131 := by have hk9 := hrc_126 o0 ko0; rw [hfo_130, hfo_108] at hk9; exact (Option.some.inj hk9).symm
        obtain rfl : a_41 = a_134 := by have hk9 := hrc_127 o0 ko0; rw [hfo_130, hfo_108] at hk9; exact (Option.some.inj hk9).symm
        refine lv_if_ne (tgt := 73) hx hb dX2_readContext_68 (by decide) (fun c_141 => ?_) (fun c_141 => ?_)
        · skip
          rw [← Int32.toInt_inj, ti_0] at c_141
          refine lv_aload_n hx hb dX2_readContext_73 rfl (lv_at hl 1 rfl) ?_
          refine lv_bipush (v := 35) hx hb dX2_readContext_74 (by decide) ?_
          refine tk_ViP (As := [.int 35]) (rest := []) (n := 1) hx hb hml hown hU hN hZ (s_X2_skipIf_k2 l (dC, dI) cI cL cZ cR cG cH Z kd L f_121 hG o0 mo0 ko0 35 (by decide)) wd_384 wd_385 wd_386 wd_33 wd_387 (by decide +kernel) ⟨Nat.le_of_ble_eq_true rfl, Nat.le_of_ble_eq_true rfl⟩ hK hP hD hS mo0 hfo_130 2 rfl rfl rfl hl.1 rfl (Nat.le_of_ble_eq_true rfl) dX2_readContext_76 ⟨Nat.le_of_ble_eq_true rfl, Nat.le_of_ble_eq_true rfl⟩ (fun x_142 f_143 H locs hw hP hD hS => ?_)
          obtain ⟨hG, bx_142, hkc_144, hfc_145, hfc_146, hfc_147, hrc_148, hrc_149, hpost_150⟩ := hw
          have hfo_152 : f_143 o1 = .inr (4, [.int v_2, .int v_3, .int v_4, .int v_5, .ref a_6, .ref a_7, .ref a_8, .ref a_9, .int v_10, .int v_11, .int v_12]) := by rw [hkc_144 o1 (by rw [ko1]; decide)]; exact hfo_129
          have hfr0 : ∀ b, kd b ≠ 2 → kd b ≠ 204 → kd b ≠ 205 → kd b ≠ 558 → f_143 b = f b := fun b q2 q204 q205 q558 => (hkc_144 b q2).trans (hfr0 b q2 q204 q205 q558)
          have hfr2_4 : ∀ b, kd b = 2 → fldI (f_143 b) 4 = fldI (f b) 4 := fun b kb => (hfc_145 b kb).trans (hfr2_4 b kb)
          have hfr2_7 : ∀ b, kd b = 2 → fldI (f_143 b) 7 = fldI (f b) 7 := fun b kb => (hfc_146 b kb).trans (hfr2_7 b kb)
          have hfr2_8 : ∀ b, kd b = 2 → fldI (f_143 b) 8 = fldI (f b) 8 := fun b kb => (hfc_147 b kb).trans (hfr2_8 b kb)
          have hfr204_1 : ∀ b, kd b = 204 → fldI (f_143 b) 1 = fldI (f b) 1 := fun b kb => (congrArg (fun x => fldI x 1) (hkc_144 b (by rw [kb]; decide))).trans (hfr204_1 b kb)
          have hrr2_0 : ∀ b, kd b = 2 → fldR (f_143 b) 0 = fldR (f b) 0 := fun b kb => (hrc_148 b kb).trans (hrr2_0 b kb)
          have hrr2_3 : ∀ b, kd b = 2 → fldR (f_143 b) 3 = fldR (f b) 3 := fun b kb => (hrc_149 b kb).trans (hrr2_3 b kb)
          obtain ⟨a_154, v_155, v_156, a_157, v_158, v_159, v_160, v_161, v_162, v_163, hfo_153, ⟨ma_154, ka_154⟩, ⟨ma_157, ka_157⟩, bv_158, bv_159, bv_160, bv_161, bv_162⟩ := un_2 (hG _ mo0) ko0
          have bv_155 : ((-2147483648) ≤ v_155.toInt ∧ v_155.toInt ≤ 2147483647) := ⟨i32_lo _, i32_hi _⟩
          have bv_156 : ((-2147483648) ≤ v_156.toInt ∧ v_156.toInt ≤ 2147483647) := ⟨i32_lo _, i32_hi _⟩
          have bv_163 : ((-2147483648) ≤ v_163.toInt ∧ v_163.toInt ≤ 2147483647) := ⟨i32_lo _, i32_hi _⟩
          obtain rfl : v_42 = v_158 := by have hk9 := hfc_145 o0 ko0; rw [hfo_153, hfo_130] at hk9; exact (Option.some.inj hk9).symm
          obtain rfl : v_45 = v_161 := by have hk9 := hfc_146 o0 ko0; rw [hfo_153, hfo_130] at hk9; exact (Option.some.inj hk9).symm
          obtain rfl : v_46 = v_162 := by have hk9 := hfc_147 o0 ko0; rw [hfo_153, hfo_130] at hk9; exact (Option.some.inj hk9).symm
          obtain rfl : a_38 = a_154 := by have hk9 := hrc_148 o0 ko0; rw [hfo_153, hfo_130] at hk9; exact (Option.some.inj hk9).symm
          obtain rfl : a_41 = a_157 := by have hk9 := hrc_149 o0 ko0; rw [hfo_153, hfo_130] at hk9; exact (Option.some.inj hk9).symm
          have hqhpost_150 := hpost_150 v_136 v_159 (by rw [hfo_130]; rfl) (by rw [hfo_153]; rfl)
          try rw [ti_35] at hqhpost_150
          have hcut_168 : ∀ (f_165 : Nat → va_E), GI (okc cI cL cZ cR cG cH L kd) kd L f_165 → ∀ (H : Heap) (locs : List Loc), va_P (dC, dI) vwCl (va_pl L f_165) H → va_S (fun q => q ∈ L) s.heap H locs → va_D (fun q => q ∈ L) (va_pl L f_165) → (∀ b, kd b ≠ 2 → kd b ≠ 204 → kd b ≠ 205 → kd b ≠ 558 → f_165 b = f b) → (∀ b, kd b = 2 → fldI (f_165 b) 4 = fldI (f b) 4) → (∀ b, kd b = 2 → fldI (f_165 b) 7 = fldI (f b) 7) → (∀ b, kd b = 2 → fldI (f_165 b) 8 = fldI (f b) 8) → (∀ b, kd b = 204 → fldI (f_165 b) 1 = fldI (f b) 1) → (∀ b, kd b = 2 → fldR (f_165 b) 0 = fldR (f b) 0) → (∀ b, kd b = 2 → fldR (f_165 b) 3 = fldR (f b) 3) → (f_165 o1 = .inr (4, [.int v_2, .int v_3, .int v_4, .int v_5, .ref a_6, .ref a_7, .ref a_8, .ref a_9, .int v_10, .int v_11, .int v_12])) → (f_165 o0 = .inr (2, [.ref a_38, .int v_155, .int v_156, .ref a_41, .int v_42, .int v_159, .int v_160, .int v_45, .int v_46, .int v_163])) → ∀ (ls : Array Slot), lv_has ls 3 [(2, .int v_5), (0, .ref o0), (1, .ref o1)] → W p l e (headSpec (wU yX2_readContext cX2_readContext 3 (some .boolean)) { frames := 3, cells := 0, slots := 0, locals := 94 }).room s m [.ref o0, .ref o1].toArray below meth c H locs 0 0 (MQ below (va_Qi (fun (r : Int32) (f9 : Nat → va_E) => GI (okc cI cL cZ cR cG cH L kd) kd L f9 ∧ (0 ≤ r.toInt ∧ r.toInt ≤ 1) ∧ (∀ b, kd b ≠ 2 → kd b ≠ 204 → kd b ≠ 205 → kd b ≠ 558 → f9 b = f b) ∧ (∀ b, kd b = 2 → fldI (f9 b) 4 = fldI (f b) 4) ∧ (∀ b, kd b = 2 → fldI (f9 b) 7 = fldI (f b) 7) ∧ (∀ b, kd b = 2 → fldI (f9 b) 8 = fldI (f b) 8) ∧ (∀ b, kd b = 204 → fldI (f9 b) 1 = fldI (f b) 1) ∧ (∀ b, kd b = 2 → fldR (f9 b) 0 = fldR (f b) 0) ∧ (∀ b, kd b = 2 → fldR (f9 b) 3 = fldR (f b) 3)) (qP (dC, dI) cI cL cZ cR cG cH L) (fun q => q ∈ L)) [.ref o0, .ref o1].toArray s 0 0 (fun q => q ∈ L)) (F0 m 90 ls []) := by
            intro f_165 hG H locs hP hS hD hfr0 hfr2_4 hfr2_7 hfr2_8 hfr204_1 hrr2_0 hrr2_3 hfo_166 hfo_167 ls hl
            refine lv_aload_n hx hb dX2_readContext_90 rfl (lv_at hl 2 rfl) ?_
            refine lv_dup hx hb dX2_readContext_91 rfl ?_
            refine tk_getP (D := (dC, dI)) (ci := 4) (v := .int v_5) (C := RX4) (T := TX4) (N := 11) hx hb hU inlX4 hown hK hP mo1 hfo_166 rfl 3 (by decide) (hU _ wd_402) (fun _ h9 => h9) rfl dX2_readContext_92 ?_
            refine lv_iconst (v := 1) hx hb dX2_readContext_95 (by decide) ?_
            refine lv_iadd hx hb dX2_readContext_96 ?_
            refine lv_topi (fun x_169 ex_169 => ?_)
            have hx_169 : x_169.toInt = v_5.toInt + 1 := by rw [ex_169, ad_I (by rw [ti_1]; omega) (by rw [ti_1]; omega), ti_1]
            have bx_169 : (1 ≤ x_169.toInt ∧ x_169.toInt ≤ 3) := by constructor <;> omega
            refine tk_putP (D := (dC, dI)) (ci := 4) (v := .int x_169) (ty := .int) (C := RX4) (T := TX4) (N := 11) hx hb hU inlX4 tyX4 tyX4_ok nmX4 hown hK hP hD hS mo1 hfo_166 rfl 3 (by decide) (hU _ wd_402) (fun _ h9 => h9) rfl (by decide +kernel) rfl rfl (Nat.le_of_ble_eq_true rfl) dX2_readContext_97 (fun H locs hP hD hS => ?_)
            obtain ⟨f_171, ef_171⟩ : ∃ y : Nat → va_E, y = va_up f_165 o1 (.inr (4, [.int v_2, .int v_3, .int v_4, .int x_169, .ref a_6, .ref a_7, .ref a_8, .ref a_9, .int v_10, .int v_11, .int v_12])) := ⟨_, rfl⟩
            have hP : va_P (dC, dI) vwCl (va_pl L f_171) H := by rw [ef_171]; exact hP
            have hD : va_D (fun q => q ∈ L) (va_pl L f_171) := by rw [ef_171]; exact hD
            have hG : GI (okc cI cL cZ cR cG cH L kd) kd L f_171 := by rw [ef_171]; exact hG.set o1 (mk_204 ko1 ⟨v_2, v_3, v_4, x_169, a_6, a_7, a_8, a_9, v_10, v_11, v_12, rfl, (by constructor <;> omega), (by constructor <;> omega), (by constructor <;> omega), (by constructor <;> omega), ⟨ma_6, ka_6⟩, ⟨ma_7, ka_7⟩, ⟨ma_8, ka_8⟩, ⟨ma_9, ka_9⟩⟩)
            have hfo_172 : f_171 o0 = .inr (2, [.ref a_38, .int v_155, .int v_156, .ref a_41, .int v_42, .int v_159, .int v_160, .int v_45, .int v_46, .int v_163]) := by rw [ef_171, up_ne (kd_ne ko1 ko0 (by decide))]; exact hfo_167
            have hfr0 : ∀ b, kd b ≠ 2 → kd b ≠ 204 → kd b ≠ 205 → kd b ≠ 558 → f_171 b = f b := fun b q2 q204 q205 q558 => (congrFun ef_171 b).trans ((up_ne (fun e9 => q204 (by rw [e9]; exact ko1))).trans (hfr0 b q2 q204 q205 q558))
            have hfr2_4 : ∀ b, kd b = 2 → fldI (f_171 b) 4 = fldI (f b) 4 := fun b kb => (congrArg (fun x => fldI x 4) ((congrFun ef_171 b).trans (up_ne (kd_ne ko1 kb (by decide))))).trans (hfr2_4 b kb)
            have hfr2_7 : ∀ b, kd b = 2 → fldI (f_171 b) 7 = fldI (f b) 7 := fun b kb => (congrArg (fun x => fldI x 7) ((congrFun ef_171 b).trans (up_ne (kd_ne ko1 kb (by decide))))).trans (hfr2_7 b kb)
            have hfr2_8 : ∀ b, kd b = 2 → fldI (f_171 b) 8 = fldI (f b) 8 := fun b kb => (congrArg (fun x => fldI x 8) ((congrFun ef_171 b).trans (up_ne (kd_ne ko1 kb (by decide))))).trans (hfr2_8 b kb)
            have hfr204_1 : ∀ b, kd b = 204 → fldI (f_171 b) 1 = fldI (f b) 1 := fun b kb => ((congrArg (fun x => fldI x 1) (congrFun ef_171 b)).trans (fk_up (by rw [hfo_166]; rfl) b)).trans (hfr204_1 b kb)
            have hrr2_0 : ∀ b, kd b = 2 → fldR (f_171 b) 0 = fldR (f b) 0 := fun b kb => (congrArg (fun x => fldR x 0) ((congrFun ef_171 b).trans (up_ne (kd_ne ko1 kb (by decide))))).trans (hrr2_0 b kb)
            have hrr2_3 : ∀ b, kd b = 2 → fldR (f_171 b) 3 = fldR (f b) 3 := fun b kb => (congrArg (fun x => fldR x 3) ((congrFun ef_171 b).trans (up_ne (kd_ne ko1 kb (by decide))))).trans (hrr2_3 b kb)
            have hfo_173 : f_171 o1 = .inr (4, [.int v_2, .int v_3, .int v_4, .int x_169, .ref a_6, .ref a_7, .ref a_8, .ref a_9, .int v_10, .int v_11, .int v_12]) := by rw [ef_171]; exact up_self
            refine lv_iconst (v := 1) hx hb dX2_readContext_100 (by decide) ?_
            exact W.zret (v := 1) (ty := .boolean) hx hb hr rfl (fun t ht hW => ⟨⟨1, f_171, rfl, ⟨hG, (by decide), hfr0, hfr2_4, hfr2_7, hfr2_8, hfr204_1, hrr2_0, hrr2_3⟩, by rw [ht]; exact hP, va_K.moved hW.alike hK, pl_in hD⟩, hS.F ht⟩) hS.2.2 dX2_readContext_101
          refine lv_if_eq (tgt := 90) hx hb dX2_readContext_79 (by decide) (fun c_174 => ?_) (fun c_174 => ?_)
          · skip
            rw [← Int32.toInt_inj, ti_0] at c_174
            exact hcut_168 f_143 hG _ _ hP hS hD hfr0 hfr2_4 hfr2_7 hfr2_8 hfr204_1 hrr2_0 hrr2_3 hfo_152 hfo_153 ls (lv_sub hl [0, 1, 2] rfl)
          · skip
            rw [← Int32.toInt_inj, ti_0] at c_174
            refine lv_aload_n hx hb dX2_readContext_82 rfl (lv_at hl 2 rfl) ?_
            refine tk_getP (D := (dC, dI)) (ci := 4) (v := .ref a_7) (C := RX4) (T := TX4) (N := 11) hx hb hU inlX4 hown hK hP mo1 hfo_152 rfl 5 (by decide) (hU _ wd_437) (fun _ h9 => h9) rfl dX2_readContext_83 ?_
            refine lv_iload_n hx hb dX2_readContext_86 rfl (lv_at hl 0 rfl) ?_
            obtain ⟨a_176, a_177, a_178, v_179, v_180, v_181, hfo_175, ⟨ma_176, ka_176⟩, ⟨ma_177, ka_177⟩, ⟨ma_178, ka_178⟩⟩ := un_205 (hG _ ma_7) ka_7
            have bv_179 : ((-2147483648) ≤ v_179.toInt ∧ v_179.toInt ≤ 2147483647) := ⟨i32_lo _, i32_hi _⟩
            have bv_180 : ((-2147483648) ≤ v_180.toInt ∧ v_180.toInt ≤ 2147483647) := ⟨i32_lo _, i32_hi _⟩
            have bv_181 : ((-2147483648) ≤ v_181.toInt ∧ v_181.toInt ≤ 2147483647) := ⟨i32_lo _, i32_hi _⟩
            refine tk_VvP (As := [.int v_5]) (rest := []) (n := 1) hx hb hml hown hU hN hZ (s_X5_putEdge_k205 l (dC, dI) cI cL cZ cR cG cH Z kd L f_143 hG a_7 ma_7 ka_7 v_5) wd_442 wd_443 wd_444 wd_102 wd_445 (by decide +kernel) ⟨Nat.le_of_ble_eq_true rfl, Nat.le_of_ble_eq_true rfl⟩ hK hP hD hS ma_7 hfo_175 5 rfl rfl rfl hl.1 rfl (Nat.le_of_ble_eq_true rfl) dX2_readContext_87 ⟨Nat.le_of_ble_eq_true rfl, Nat.le_of_ble_eq_true rfl⟩ (fun f_183 H locs hw hP hD hS => ?_)
            obtain ⟨hG, hkc_184⟩ := hw
            have hfo_186 : f_183 o1 = .inr (4, [.int v_2, .int v_3, .int v_4, .int v_5, .ref a_6, .ref a_7, .ref a_8, .ref a_9, .int v_10, .int v_11, .int v_12]) := by rw [hkc_184 o1 (by rw [ko1]; decide)]; exact hfo_152
            have hfo_187 : f_183 o0 = .inr (2, [.ref a_38, .int v_155, .int v_156, .ref a_41, .int v_42, .int v_159, .int v_160, .int v_45, .int v_46, .int v_163]) := by rw [hkc_184 o0 (by rw [ko0]; decide)]; exact hfo_153
            have hfr0 : ∀ b, kd b ≠ 2 → kd b ≠ 204 → kd b ≠ 205 → kd b ≠ 558 → f_183 b = f b := fun b q2 q204 q205 q558 => (hkc_184 b q205).trans (hfr0 b q2 q204 q205 q558)
            have hfr2_4 : ∀ b, kd b = 2 → fldI (f_183 b) 4 = fldI (f b) 4 := fun b kb => (congrArg (fun x => fldI x 4) (hkc_184 b (by rw [kb]; decide))).trans (hfr2_4 b kb)
            have hfr2_7 : ∀ b, kd b = 2 → fldI (f_183 b) 7 = fldI (f b) 7 := fun b kb => (congrArg (fun x => fldI x 7) (hkc_184 b (by rw [kb]; decide))).trans (hfr2_7 b kb)
            have hfr2_8 : ∀ b, kd b = 2 → fldI (f_183 b) 8 = fldI (f b) 8 := fun b kb => (congrArg (fun x => fldI x 8) (hkc_184 b (by rw [kb]; decide))).trans (hfr2_8 b kb)
            have hfr204_1 : ∀ b, kd b = 204 → fldI (f_183 b) 1 = fldI (f b) 1 := fun b kb => (congrArg (fun x => fldI x 1) (hkc_184 b (by rw [kb]; decide))).trans (hfr204_1 b kb)
            have hrr2_0 : ∀ b, kd b = 2 → fldR (f_183 b) 0 = fldR (f b) 0 := fun b kb => (congrArg (fun x => fldR x 0) (hkc_184 b (by rw [kb]; decide))).trans (hrr2_0 b kb)
            have hrr2_3 : ∀ b, kd b = 2 → fldR (f_183 b) 3 = fldR (f b) 3 := fun b kb => (congrArg (fun x => fldR x 3) (hkc_184 b (by rw [kb]; decide))).trans (hrr2_3 b kb)
            exact hcut_168 f_183 hG _ _ hP hS hD hfr0 hfr2_4 hfr2_7 hfr2_8 hfr204_1 hrr2_0 hrr2_3 hfo_186 hfo_187 ls (lv_sub hl [0, 1, 2] rfl)
        · skip
          rw [← Int32.toInt_inj, ti_0] at c_141
          refine lv_iconst (v := 0) hx hb dX2_readContext_71 (by decide) ?_
          exact W.zret (v := 0) (ty := .boolean) hx hb hr rfl (fun t ht hW => ⟨⟨0, f_121, rfl, ⟨hG, (by decide), hfr0, hfr2_4, hfr2_7, hfr2_8, hfr204_1, hrr2_0, hrr2_3⟩, by rw [ht]; exact hP, va_K.moved hW.alike hK, pl_in hD⟩, hS.F ht⟩) hS.2.2 dX2_readContext_72
  refine lv_if_eq (tgt := 38) hx hb dX2_readContext_27 (by decide) (fun c_188 => ?_) (fun c_188 => ?_)
  · skip
    rw [← Int32.toInt_inj, ti_0] at c_188
    exact hcut_74 f_49 hG _ _ hP hS hD hfr0 hfr2_4 hfr2_7 hfr2_8 hfr204_1 hrr2_0 hrr2_3 hfo_58 hfo_59 ls (lv_sub hl [0, 1, 2] rfl)
  · skip
    rw [← Int32.toInt_inj, ti_0] at c_188
    refine lv_aload_n hx hb dX2_readContext_30 rfl (lv_at hl 2 rfl) ?_
    refine tk_getP (D := (dC, dI)) (ci := 4) (v := .ref a_6) (C := RX4) (T := TX4) (N := 11) hx hb hU inlX4 hown hK hP mo1 hfo_58 rfl 4 (by decide) (hU _ wd_436) (fun _ h9 => h9) rfl dX2_readContext_31 ?_
    refine lv_iload_n hx hb dX2_readContext_34 rfl (lv_at hl 0 rfl) ?_
    obtain ⟨a_190, a_191, a_192, v_193, v_194, v_195, hfo_189, ⟨ma_190, ka_190⟩, ⟨ma_191, ka_191⟩, ⟨ma_192, ka_192⟩⟩ := un_205 (hG _ ma_6) ka_6
    have bv_193 : ((-2147483648) ≤ v_193.toInt ∧ v_193.toInt ≤ 2147483647) := ⟨i32_lo _, i32_hi _⟩
    have bv_194 : ((-2147483648) ≤ v_194.toInt ∧ v_194.toInt ≤ 2147483647) := ⟨i32_lo _, i32_hi _⟩
    have bv_195 : ((-2147483648) ≤ v_195.toInt ∧ v_195.toInt ≤ 2147483647) := ⟨i32_lo _, i32_hi _⟩
    refine tk_VvP (As := [.int v_5]) (rest := []) (n := 1) hx hb hml hown hU hN hZ (s_X5_putEdge_k205 l (dC, dI) cI cL cZ cR cG cH Z kd L f_49 hG a_6 ma_6 ka_6 v_5) wd_442 wd_443 wd_444 wd_102 wd_445 (by decide +kernel) ⟨Nat.le_of_ble_eq_true rfl, Nat.le_of_ble_eq_true rfl⟩ hK hP hD hS ma_6 hfo_189 5 rfl rfl rfl hl.1 rfl (Nat.le_of_ble_eq_true rfl) dX2_readContext_35 ⟨Nat.le_of_ble_eq_true rfl, Nat.le_of_ble_eq_true rfl⟩ (fun f_197 H locs hw hP hD hS => ?_)
    obtain ⟨hG, hkc_198⟩ := hw
    have hfo_200 : f_197 o1 = .inr (4, [.int v_2, .int v_3, .int v_4, .int v_5, .ref a_6, .ref a_7, .ref a_8, .ref a_9, .int v_10, .int v_11, .int v_12]) := by rw [hkc_198 o1 (by rw [ko1]; decide)]; exact hfo_58
    have hfo_201 : f_197 o0 = .inr (2, [.ref a_38, .int v_61, .int v_62, .ref a_41, .int v_42, .int v_65, .int v_66, .int v_45, .int v_46, .int v_69]) := by rw [hkc_198 o0 (by rw [ko0]; decide)]; exact hfo_59
    have hfr0 : ∀ b, kd b ≠ 2 → kd b ≠ 204 → kd b ≠ 205 → kd b ≠ 558 → f_197 b = f b := fun b q2 q204 q205 q558 => (hkc_198 b q205).trans (hfr0 b q2 q204 q205 q558)
    have hfr2_4 : ∀ b, kd b = 2 → fldI (f_197 b) 4 = fldI (f b) 4 := fun b kb => (congrArg (fun x => fldI x 4) (hkc_198 b (by rw [kb]; decide))).trans (hfr2_4 b kb)
    have hfr2_7 : ∀ b, kd b = 2 → fldI (f_197 b) 7 = fldI (f b) 7 := fun b kb => (congrArg (fun x => fldI x 7) (hkc_198 b (by rw [kb]; decide))).trans (hfr2_7 b kb)
    have hfr2_8 : ∀ b, kd b = 2 → fldI (f_197 b) 8 = fldI (f b) 8 := fun b kb => (congrArg (fun x => fldI x 8) (hkc_198 b (by rw [kb]; decide))).trans (hfr2_8 b kb)
    have hfr204_1 : ∀ b, kd b = 204 → fldI (f_197 b) 1 = fldI (f b) 1 := fun b kb => (congrArg (fun x => fldI x 1) (hkc_198 b (by rw [kb]; decide))).trans (hfr204_1 b kb)
    have hrr2_0 : ∀ b, kd b = 2 → fldR (f_197 b) 0 = fldR (f b) 0 := fun b kb => (congrArg (fun x => fldR x 0) (hkc_198 b (by rw [kb]; decide))).trans (hrr2_0 b kb)
    have hrr2_3 : ∀ b, kd b = 2 → fldR (f_197 b) 3 = fldR (f b) 3 := fun b kb => (congrArg (fun x => fldR x 3) (hkc_198 b (by rw [kb]; decide))).trans (hrr2_3 b kb)
    exact hcut_74 f_197 hG _ _ hP hS hD hfr0 hfr2_4 hfr2_7 hfr2_8 hfr204_1 hrr2_0 hrr2_3 hfo_200 hfo_201 ls (lv_sub hl [0, 1, 2] rfl)
set_option maxHeartbeats 8000000 in
set_option maxRecDepth 100000 in
theorem s_X2_readOp_k2_k204 (l : Launch) (D : va_G) (cI cL cZ cR cG cH : ClassId) (Z : zT) (kd : Nat → Nat) (L : List Nat) (f : Nat → va_E) (hG : GI (okc cI cL cZ cR cG cH L kd) kd L f) (o0 : Nat) (mo0 : o0 ∈ L) (ko0 : kd o0 = 2) (o1 : Nat) (mo1 : o1 ∈ L) (ko1 : kd o1 = 204) : mPI l D cI cL cZ cR cG cH Z yX2_readOp cX2_readOp 3 (some .boolean) 5 107 [.ref o0, .ref o1] L f (fun (r : Int32) (f9 : Nat → va_E) => GI (okc cI cL cZ cR cG cH L kd) kd L f9 ∧ (0 ≤ r.toInt ∧ r.toInt ≤ 1) ∧ (∀ b, kd b ≠ 2 → kd b ≠ 204 → f9 b = f b) ∧ (∀ b, kd b = 2 → fldI (f9 b) 4 = fldI (f b) 4) ∧ (∀ b, kd b = 2 → fldI (f9 b) 7 = fldI (f b) 7) ∧ (∀ b, kd b = 2 → fldI (f9 b) 8 = fldI (f b) 8) ∧ (∀ b, kd b = 204 → fldI (f9 b) 1 = fldI (f b) 1) ∧ (∀ b, kd b = 204 → fldI (f9 b) 3 = fldI (f b) 3) ∧ (∀ b, kd b = 2 → fldR (f9 b) 0 = fldR (f b) 0) ∧ (∀ b, kd b = 2 → fldR (f9 b) 3 = fldR (f b) 3)) := by
  obtain ⟨dC, dI⟩ := D
  refine Met.ofW (cc := cX2_readOp) (maxL := 3) (ret := (some .boolean)) (by decide) rfl ?_
  intro p e s m args below meth c s₁ B hml hv
  obtain ⟨rfl, hP, hK, hD0, hN, hZ⟩ := hv
  have hx := B.exec
  have hb := B.bytes
  have hr := B.returns
  have hU : ∀ w ∈ wsU, w.before _ s = true := fun w h => atoms_spec (ws := wU yX2_readOp cX2_readOp 3 (some .boolean)) B.pre w (List.mem_cons_of_mem _ h)
  have hown : s.vm.findClass RX2 = some m.cls := findClass_of_methodNamed B.named
  have hlocks := B.notSynchronized
  have hD := pl_in hD0
  have hS : va_S (fun q => q ∈ L) s.heap s.heap [] := va_S.rf
  have hl := lv_entry ([.ref o0, .ref o1]) (n := 3) (Nat.le_of_ble_eq_true rfl)
  rw [lg_entry_eq]
  generalize (lg_sl ([.ref o0, .ref o1]) ++ List.replicate (3 - (lg_sl ([.ref o0, .ref o1])).length) Slot.unset).toArray = ls at hl ⊢
  have hl : lv_has ls 3 [(0, .ref o0), (1, .ref o1)] := hl
  have hfr0 : ∀ b, kd b ≠ 2 → kd b ≠ 204 → f b = f b := fun _ _ _ => rfl
  have hfr2_4 : ∀ b, kd b = 2 → fldI (f b) 4 = fldI (f b) 4 := fun _ _ => rfl
  have hfr2_7 : ∀ b, kd b = 2 → fldI (f b) 7 = fldI (f b) 7 := fun _ _ => rfl
  have hfr2_8 : ∀ b, kd b = 2 → fldI (f b) 8 = fldI (f b) 8 := fun _ _ => rfl
  have hfr204_1 : ∀ b, kd b = 204 → fldI (f b) 1 = fldI (f b) 1 := fun _ _ => rfl
  have hfr204_3 : ∀ b, kd b = 204 → fldI (f b) 3 = fldI (f b) 3 := fun _ _ => rfl
  have hrr2_0 : ∀ b, kd b = 2 → fldR (f b) 0 = fldR (f b) 0 := fun _ _ => rfl
  have hrr2_3 : ∀ b, kd b = 2 → fldR (f b) 3 = fldR (f b) 3 := fun _ _ => rfl
  refine lv_aload_n hx hb dX2_readOp_0 rfl (lv_at hl 0 rfl) ?_
  obtain ⟨a_2, v_3, v_4, a_5, v_6, v_7, v_8, v_9, v_10, v_11, hfo_1, ⟨ma_2, ka_2⟩, ⟨ma_5, ka_5⟩, bv_6, bv_7, bv_8, bv_9, bv_10⟩ := un_2 (hG _ mo0) ko0
  have bv_3 : ((-2147483648) ≤ v_3.toInt ∧ v_3.toInt ≤ 2147483647) := ⟨i32_lo _, i32_hi _⟩
  have bv_4 : ((-2147483648) ≤ v_4.toInt ∧ v_4.toInt ≤ 2147483647) := ⟨i32_lo _, i32_hi _⟩
  have bv_11 : ((-2147483648) ≤ v_11.toInt ∧ v_11.toInt ≤ 2147483647) := ⟨i32_lo _, i32_hi _⟩
  refine tk_ViP (As := []) (rest := []) (n := 0) hx hb hml hown hU hN hZ (s_X2_peek_k2 l (dC, dI) cI cL cZ cR cG cH Z kd L f hG o0 mo0 ko0) wd_274 wd_275 wd_276 wd_33 wd_277 (by decide +kernel) ⟨Nat.le_of_ble_eq_true rfl, Nat.le_of_ble_eq_true rfl⟩ hK hP hD hS mo0 hfo_1 2 rfl rfl rfl hl.1 rfl (Nat.le_of_ble_eq_true rfl) dX2_readOp_1 ⟨Nat.le_of_ble_eq_true rfl, Nat.le_of_ble_eq_true rfl⟩ (fun x_12 f_13 H locs hw hP hD hS => ?_)
  obtain ⟨hG, bx_12, hkc_14, hfc_15, hfc_16, hfc_17, hrc_18, hrc_19, hpost_20, hxp_21⟩ := hw
  have hfr0 : ∀ b, kd b ≠ 2 → kd b ≠ 204 → f_13 b = f b := fun b q2 q204 => (hkc_14 b q2).trans (hfr0 b q2 q204)
  have hfr2_4 : ∀ b, kd b = 2 → fldI (f_13 b) 4 = fldI (f b) 4 := fun b kb => (hfc_15 b kb).trans (hfr2_4 b kb)
  have hfr2_7 : ∀ b, kd b = 2 → fldI (f_13 b) 7 = fldI (f b) 7 := fun b kb => (hfc_16 b kb).trans (hfr2_7 b kb)
  have hfr2_8 : ∀ b, kd b = 2 → fldI (f_13 b) 8 = fldI (f b) 8 := fun b kb => (hfc_17 b kb).trans (hfr2_8 b kb)
  have hfr204_1 : ∀ b, kd b = 204 → fldI (f_13 b) 1 = fldI (f b) 1 := fun b kb => (congrArg (fun x => fldI x 1) (hkc_14 b (by rw [kb]; decide))).trans (hfr204_1 b kb)
  have hfr204_3 : ∀ b, kd b = 204 → fldI (f_13 b) 3 = fldI (f b) 3 := fun b kb => (congrArg (fun x => fldI x 3) (hkc_14 b (by rw [kb]; decide))).trans (hfr204_3 b kb)
  have hrr2_0 : ∀ b, kd b = 2 → fldR (f_13 b) 0 = fldR (f b) 0 := fun b kb => (hrc_18 b kb).trans (hrr2_0 b kb)
  have hrr2_3 : ∀ b, kd b = 2 → fldR (f_13 b) 3 = fldR (f b) 3 := fun b kb => (hrc_19 b kb).trans (hrr2_3 b kb)
  obtain ⟨a_24, v_25, v_26, a_27, v_28, v_29, v_30, v_31, v_32, v_33, hfo_23, ⟨ma_24, ka_24⟩, ⟨ma_27, ka_27⟩, bv_28, bv_29, bv_30, bv_31, bv_32⟩ := un_2 (hG _ mo0) ko0
  have bv_25 : ((-2147483648) ≤ v_25.toInt ∧ v_25.toInt ≤ 2147483647) := ⟨i32_lo _, i32_hi _⟩
  have bv_26 : ((-2147483648) ≤ v_26.toInt ∧ v_26.toInt ≤ 2147483647) := ⟨i32_lo _, i32_hi _⟩
  have bv_33 : ((-2147483648) ≤ v_33.toInt ∧ v_33.toInt ≤ 2147483647) := ⟨i32_lo _, i32_hi _⟩
  obtain rfl : a_2 = a_24 := by have hk9 := hrr2_0 o0 ko0; rw [hfo_23, hfo_1] at hk9; exact (Option.some.inj hk9).symm
  obtain rfl : a_5 = a_27 := by have hk9 := hrr2_3 o0 ko0; rw [hfo_23, hfo_1] at hk9; exact (Option.some.inj hk9).symm
  obtain rfl : v_6 = v_28 := by have hk9 := hfc_15 o0 ko0; rw [hfo_23, hfo_1] at hk9; exact (Option.some.inj hk9).symm
  obtain rfl : v_9 = v_31 := by have hk9 := hfc_16 o0 ko0; rw [hfo_23, hfo_1] at hk9; exact (Option.some.inj hk9).symm
  obtain rfl : v_10 = v_32 := by have hk9 := hfc_17 o0 ko0; rw [hfo_23, hfo_1] at hk9; exact (Option.some.inj hk9).symm
  have hqhpost_20 := hpost_20 v_7 v_29 (by rw [hfo_1]; rfl) (by rw [hfo_23]; rfl)
  obtain ⟨g_35, hfo_34, hbg_35⟩ := un_533 (hG _ ma_5) ka_5
  have hpkx_12 := hxp_21 a_5 g_35 v_29 (by rw [hfo_23]; rfl) hfo_34 (by rw [hfo_23]; rfl)
  refine lv_pop hx hb dX2_readOp_4 rfl ?_
  refine lv_aload_n hx hb dX2_readOp_5 rfl (lv_at hl 0 rfl) ?_
  refine tk_getP (D := (dC, dI)) (ci := 2) (v := .int v_29) (C := RX2) (T := TX2) (N := 10) hx hb hU inlX2 hown hK hP mo0 hfo_23 rfl 5 (by decide) (hU _ wd_256) (fun _ h9 => h9) rfl dX2_readOp_6 ?_
  refine lv_istore_n (lv' := [(2, .int v_29), (0, .ref o0), (1, .ref o1)]) hx hb dX2_readOp_9 rfl hl (by decide) rfl (fun ls hl => ?_)
  refine lv_aload_n hx hb dX2_readOp_10 rfl (lv_at hl 1 rfl) ?_
  refine va_ldcS hx hb hown hZ.2.2.2.2.2.2.2.2.2.2.2.1 dX2_readOp_11 ?_
  refine tk_ViP (As := [.ref (Z.1 6)]) (rest := []) (n := 1) hx hb hml hown hU hN hZ (s_X2_standsHere_k2 l (dC, dI) cI cL cZ cR cG cH Z kd L f_13 hG o0 mo0 ko0 6 (by decide)) wd_425 wd_426 wd_427 wd_33 wd_428 (by decide +kernel) ⟨Nat.le_of_ble_eq_true rfl, Nat.le_of_ble_eq_true rfl⟩ hK hP hD hS mo0 hfo_23 2 rfl rfl rfl hl.1 rfl (Nat.le_of_ble_eq_true rfl) dX2_readOp_13 ⟨Nat.le_of_ble_eq_true rfl, Nat.le_of_ble_eq_true rfl⟩ (fun x_36 f_37 H locs hw hP hD hS => ?_)
  obtain ⟨hG, bx_36, hkc_38, hfc_39, hfc_40, hfc_41, hrc_42, hrc_43, hpost_44⟩ := hw
  have hfo_46 : f_37 a_5 = .inl (cI, 600, .inl g_35) := by rw [hkc_38 a_5 (by rw [ka_5]; decide)]; exact hfo_34
  have hfr0 : ∀ b, kd b ≠ 2 → kd b ≠ 204 → f_37 b = f b := fun b q2 q204 => (hkc_38 b q2).trans (hfr0 b q2 q204)
  have hfr2_4 : ∀ b, kd b = 2 → fldI (f_37 b) 4 = fldI (f b) 4 := fun b kb => (hfc_39 b kb).trans (hfr2_4 b kb)
  have hfr2_7 : ∀ b, kd b = 2 → fldI (f_37 b) 7 = fldI (f b) 7 := fun b kb => (hfc_40 b kb).trans (hfr2_7 b kb)
  have hfr2_8 : ∀ b, kd b = 2 → fldI (f_37 b) 8 = fldI (f b) 8 := fun b kb => (hfc_41 b kb).trans (hfr2_8 b kb)
  have hfr204_1 : ∀ b, kd b = 204 → fldI (f_37 b) 1 = fldI (f b) 1 := fun b kb => (congrArg (fun x => fldI x 1) (hkc_38 b (by rw [kb]; decide))).trans (hfr204_1 b kb)
  have hfr204_3 : ∀ b, kd b = 204 → fldI (f_37 b) 3 = fldI (f b) 3 := fun b kb => (congrArg (fun x => fldI x 3) (hkc_38 b (by rw [kb]; decide))).trans (hfr204_3 b kb)
  have hrr2_0 : ∀ b, kd b = 2 → fldR (f_37 b) 0 = fldR (f b) 0 := fun b kb => (hrc_42 b kb).trans (hrr2_0 b kb)
  have hrr2_3 : ∀ b, kd b = 2 → fldR (f_37 b) 3 = fldR (f b) 3 := fun b kb => (hrc_43 b kb).trans (hrr2_3 b kb)
  obtain ⟨a_48, v_49, v_50, a_51, v_52, v_53, v_54, v_55, v_56, v_57, hfo_47, ⟨ma_48, ka_48⟩, ⟨ma_51, ka_51⟩, bv_52, bv_53, bv_54, bv_55, bv_56⟩ := un_2 (hG _ mo0) ko0
  have bv_49 : ((-2147483648) ≤ v_49.toInt ∧ v_49.toInt ≤ 2147483647) := ⟨i32_lo _, i32_hi _⟩
  have bv_50 : ((-2147483648) ≤ v_50.toInt ∧ v_50.toInt ≤ 2147483647) := ⟨i32_lo _, i32_hi _⟩
  have bv_57 : ((-2147483648) ≤ v_57.toInt ∧ v_57.toInt ≤ 2147483647) := ⟨i32_lo _, i32_hi _⟩
  obtain rfl : a_2 = a_48 := by have hk9 := hrr2_0 o0 ko0; rw [hfo_47, hfo_1] at hk9; exact (Option.some.inj hk9).symm
  obtain rfl : a_5 = a_51 := by have hk9 := hrr2_3 o0 ko0; rw [hfo_47, hfo_1] at hk9; exact (Option.some.inj hk9).symm
  obtain rfl : v_6 = v_52 := by have hk9 := hfc_39 o0 ko0; rw [hfo_47, hfo_23] at hk9; exact (Option.some.inj hk9).symm
  obtain rfl : v_9 = v_55 := by have hk9 := hfc_40 o0 ko0; rw [hfo_47, hfo_23] at hk9; exact (Option.some.inj hk9).symm
  obtain rfl : v_10 = v_56 := by have hk9 := hfc_41 o0 ko0; rw [hfo_47, hfo_23] at hk9; exact (Option.some.inj hk9).symm
  have hqhpost_44 := hpost_44 v_29 v_53 (by rw [hfo_23]; rfl) (by rw [hfo_47]; rfl)
  refine lv_if_eq (tgt := 27) hx hb dX2_readOp_16 (by decide) (fun c_58 => ?_) (fun c_58 => ?_)
  · skip
    rw [← Int32.toInt_inj, ti_0] at c_58
    refine lv_aload_n hx hb dX2_readOp_27 rfl (lv_at hl 1 rfl) ?_
    refine va_ldcS hx hb hown hZ.2.2.2.2.2.2.2.2.2.2.2.2.1 dX2_readOp_28 ?_
    refine tk_ViP (As := [.ref (Z.1 7)]) (rest := []) (n := 1) hx hb hml hown hU hN hZ (s_X2_standsHere_k2 l (dC, dI) cI cL cZ cR cG cH Z kd L f_37 hG o0 mo0 ko0 7 (by decide)) wd_425 wd_426 wd_427 wd_33 wd_428 (by decide +kernel) ⟨Nat.le_of_ble_eq_true rfl, Nat.le_of_ble_eq_true rfl⟩ hK hP hD hS mo0 hfo_47 2 rfl rfl rfl hl.1 rfl (Nat.le_of_ble_eq_true rfl) dX2_readOp_30 ⟨Nat.le_of_ble_eq_true rfl, Nat.le_of_ble_eq_true rfl⟩ (fun x_59 f_60 H locs hw hP hD hS => ?_)
    obtain ⟨hG, bx_59, hkc_61, hfc_62, hfc_63, hfc_64, hrc_65, hrc_66, hpost_67⟩ := hw
    have hfo_69 : f_60 a_5 = .inl (cI, 600, .inl g_35) := by rw [hkc_61 a_5 (by rw [ka_5]; decide)]; exact hfo_46
    have hfr0 : ∀ b, kd b ≠ 2 → kd b ≠ 204 → f_60 b = f b := fun b q2 q204 => (hkc_61 b q2).trans (hfr0 b q2 q204)
    have hfr2_4 : ∀ b, kd b = 2 → fldI (f_60 b) 4 = fldI (f b) 4 := fun b kb => (hfc_62 b kb).trans (hfr2_4 b kb)
    have hfr2_7 : ∀ b, kd b = 2 → fldI (f_60 b) 7 = fldI (f b) 7 := fun b kb => (hfc_63 b kb).trans (hfr2_7 b kb)
    have hfr2_8 : ∀ b, kd b = 2 → fldI (f_60 b) 8 = fldI (f b) 8 := fun b kb => (hfc_64 b kb).trans (hfr2_8 b kb)
    have hfr204_1 : ∀ b, kd b = 204 → fldI (f_60 b) 1 = fldI (f b) 1 := fun b kb => (congrArg (fun x => fldI x 1) (hkc_61 b (by rw [kb]; decide))).trans (hfr204_1 b kb)
    have hfr204_3 : ∀ b, kd b = 204 → fldI (f_60 b) 3 = fldI (f b) 3 := fun b kb => (congrArg (fun x => fldI x 3) (hkc_61 b (by rw [kb]; decide))).trans (hfr204_3 b kb)
    have hrr2_0 : ∀ b, kd b = 2 → fldR (f_60 b) 0 = fldR (f b) 0 := fun b kb => (hrc_65 b kb).trans (hrr2_0 b kb)
    have hrr2_3 : ∀ b, kd b = 2 → fldR (f_60 b) 3 = fldR (f b) 3 := fun b kb => (hrc_66 b kb).trans (hrr2_3 b kb)
    obtain ⟨a_71, v_72, v_73, a_74, v_75, v_76, v_77, v_78, v_79, v_80, hfo_70, ⟨ma_71, ka_71⟩, ⟨ma_74, ka_74⟩, bv_75, bv_76, bv_77, bv_78, bv_79⟩ := un_2 (hG _ mo0) ko0
    have bv_72 : ((-2147483648) ≤ v_72.toInt ∧ v_72.toInt ≤ 2147483647) := ⟨i32_lo _, i32_hi _⟩
    have bv_73 : ((-2147483648) ≤ v_73.toInt ∧ v_73.toInt ≤ 2147483647) := ⟨i32_lo _, i32_hi _⟩
    have bv_80 : ((-2147483648) ≤ v_80.toInt ∧ v_80.toInt ≤ 2147483647) := ⟨i32_lo _, i32_hi _⟩
    obtain rfl : a_2 = a_71 := by have hk9 := hrr2_0 o0 ko0; rw [hfo_70, hfo_1] at hk9; exact (Option.some.inj hk9).symm
    obtain rfl : a_5 = a_74 := by have hk9 := hrr2_3 o0 ko0; rw [hfo_70, hfo_1] at hk9; exact (Option.some.inj hk9).symm
    obtain rfl : v_6 = v_75 := by have hk9 := hfc_62 o0 ko0; rw [hfo_70, hfo_47] at hk9; exact (Option.some.inj hk9).symm
    obtain rfl : v_9 = v_78 := by have hk9 := hfc_63 o0 ko0; rw [hfo_70, hfo_47] at hk9; exact (Option.some.inj hk9).symm
    obtain rfl : v_10 = v_79 := by have hk9 := hfc_64 o0 ko0; rw [hfo_70, hfo_47] at hk9; exact (Option.some.inj hk9).symm
    have hqhpost_67 := hpost_67 v_53 v_76 (by rw [hfo_47]; rfl) (by rw [hfo_70]; rfl)
    refine lv_if_eq (tgt := 44) hx hb dX2_readOp_33 (by decide) (fun c_81 => ?_) (fun c_81 => ?_)
    · skip
      rw [← Int32.toInt_inj, ti_0] at c_81
      refine lv_aload_n hx hb dX2_readOp_44 rfl (lv_at hl 1 rfl) ?_
      refine va_ldcS hx hb hown hZ.2.2.2.2.2.2.2.2.2.2.2.2.2.1 dX2_readOp_45 ?_
      refine tk_ViP (As := [.ref (Z.1 8)]) (rest := []) (n := 1) hx hb hml hown hU hN hZ (s_X2_standsHere_k2 l (dC, dI) cI cL cZ cR cG cH Z kd L f_60 hG o0 mo0 ko0 8 (by decide)) wd_425 wd_426 wd_427 wd_33 wd_428 (by decide +kernel) ⟨Nat.le_of_ble_eq_true rfl, Nat.le_of_ble_eq_true rfl⟩ hK hP hD hS mo0 hfo_70 2 rfl rfl rfl hl.1 rfl (Nat.le_of_ble_eq_true rfl) dX2_readOp_47 ⟨Nat.le_of_ble_eq_true rfl, Nat.le_of_ble_eq_true rfl⟩ (fun x_82 f_83 H locs hw hP hD hS => ?_)
      obtain ⟨hG, bx_82, hkc_84, hfc_85, hfc_86, hfc_87, hrc_88, hrc_89, hpost_90⟩ := hw
      have hfo_92 : f_83 a_5 = .inl (cI, 600, .inl g_35) := by rw [hkc_84 a_5 (by rw [ka_5]; decide)]; exact hfo_69
      have hfr0 : ∀ b, kd b ≠ 2 → kd b ≠ 204 → f_83 b = f b := fun b q2 q204 => (hkc_84 b q2).trans (hfr0 b q2 q204)
      have hfr2_4 : ∀ b, kd b = 2 → fldI (f_83 b) 4 = fldI (f b) 4 := fun b kb => (hfc_85 b kb).trans (hfr2_4 b kb)
      have hfr2_7 : ∀ b, kd b = 2 → fldI (f_83 b) 7 = fldI (f b) 7 := fun b kb => (hfc_86 b kb).trans (hfr2_7 b kb)
      have hfr2_8 : ∀ b, kd b = 2 → fldI (f_83 b) 8 = fldI (f b) 8 := fun b kb => (hfc_87 b kb).trans (hfr2_8 b kb)
      have hfr204_1 : ∀ b, kd b = 204 → fldI (f_83 b) 1 = fldI (f b) 1 := fun b kb => (congrArg (fun x => fldI x 1) (hkc_84 b (by rw [kb]; decide))).trans (hfr204_1 b kb)
      have hfr204_3 : ∀ b, kd b = 204 → fldI (f_83 b) 3 = fldI (f b) 3 := fun b kb => (congrArg (fun x => fldI x 3) (hkc_84 b (by rw [kb]; decide))).trans (hfr204_3 b kb)
      have hrr2_0 : ∀ b, kd b = 2 → fldR (f_83 b) 0 = fldR (f b) 0 := fun b kb => (hrc_88 b kb).trans (hrr2_0 b kb)
      have hrr2_3 : ∀ b, kd b = 2 → fldR (f_83 b) 3 = fldR (f b) 3 := fun b kb => (hrc_89 b kb).trans (hrr2_3 b kb)
      obtain ⟨a_94, v_95, v_96, a_97, v_98, v_99, v_100, v_101, v_102, v_103, hfo_93, ⟨ma_94, ka_94⟩, ⟨ma_97, ka_97⟩, bv_98, bv_99, bv_100, bv_101, bv_102⟩ := un_2 (hG _ mo0) ko0
      have bv_95 : ((-2147483648) ≤ v_95.toInt ∧ v_95.toInt ≤ 2147483647) := ⟨i32_lo _, i32_hi _⟩
      have bv_96 : ((-2147483648) ≤ v_96.toInt ∧ v_96.toInt ≤ 2147483647) := ⟨i32_lo _, i32_hi _⟩
      have bv_103 : ((-2147483648) ≤ v_103.toInt ∧ v_103.toInt ≤ 2147483647) := ⟨i32_lo _, i32_hi _⟩
      obtain rfl : a_2 = a_94 := by have hk9 := hrr2_0 o0 ko0; rw [hfo_93, hfo_1] at hk9; exact (Option.some.inj hk9).symm
      obtain rfl : a_5 = a_97 := by have hk9 := hrr2_3 o0 ko0; rw [hfo_93, hfo_1] at hk9; exact (Option.some.inj hk9).symm
      obtain rfl : v_6 = v_98 := by have hk9 := hfc_85 o0 ko0; rw [hfo_93, hfo_70] at hk9; exact (Option.some.inj hk9).symm
      obtain rfl : v_9 = v_101 := by have hk9 := hfc_86 o0 ko0; rw [hfo_93, hfo_70] at hk9; exact (Option.some.inj hk9).symm
      obtain rfl : v_10 = v_102 := by have hk9 := hfc_87 o0 ko0; rw [hfo_93, hfo_70] at hk9; exact (Option.some.inj hk9).symm
      have hqhpost_90 := hpost_90 v_76 v_99 (by rw [hfo_70]; rfl) (by rw [hfo_93]; rfl)
      refine lv_if_eq (tgt := 61) hx hb dX2_readOp_50 (by decide) (fun c_104 => ?_) (fun c_104 => ?_)
      · skip
        rw [← Int32.toInt_inj, ti_0] at c_104
        refine lv_aload_n hx hb dX2_readOp_61 rfl (lv_at hl 1 rfl) ?_
        refine va_ldcS hx hb hown hZ.2.2.2.2.2.2.2.2.2.2.2.2.2.2.1 dX2_readOp_62 ?_
        refine tk_ViP (As := [.ref (Z.1 9)]) (rest := []) (n := 1) hx hb hml hown hU hN hZ (s_X2_standsHere_k2 l (dC, dI) cI cL cZ cR cG cH Z kd L f_83 hG o0 mo0 ko0 9 (by decide)) wd_425 wd_426 wd_427 wd_33 wd_428 (by decide +kernel) ⟨Nat.le_of_ble_eq_true rfl, Nat.le_of_ble_eq_true rfl⟩ hK hP hD hS mo0 hfo_93 2 rfl rfl rfl hl.1 rfl (Nat.le_of_ble_eq_true rfl) dX2_readOp_64 ⟨Nat.le_of_ble_eq_true rfl, Nat.le_of_ble_eq_true rfl⟩ (fun x_105 f_106 H locs hw hP hD hS => ?_)
        obtain ⟨hG, bx_105, hkc_107, hfc_108, hfc_109, hfc_110, hrc_111, hrc_112, hpost_113⟩ := hw
        have hfo_115 : f_106 a_5 = .inl (cI, 600, .inl g_35) := by rw [hkc_107 a_5 (by rw [ka_5]; decide)]; exact hfo_92
        have hfr0 : ∀ b, kd b ≠ 2 → kd b ≠ 204 → f_106 b = f b := fun b q2 q204 => (hkc_107 b q2).trans (hfr0 b q2 q204)
        have hfr2_4 : ∀ b, kd b = 2 → fldI (f_106 b) 4 = fldI (f b) 4 := fun b kb => (hfc_108 b kb).trans (hfr2_4 b kb)
        have hfr2_7 : ∀ b, kd b = 2 → fldI (f_106 b) 7 = fldI (f b) 7 := fun b kb => (hfc_109 b kb).trans (hfr2_7 b kb)
        have hfr2_8 : ∀ b, kd b = 2 → fldI (f_106 b) 8 = fldI (f b) 8 := fun b kb => (hfc_110 b kb).trans (hfr2_8 b kb)
        have hfr204_1 : ∀ b, kd b = 204 → fldI (f_106 b) 1 = fldI (f b) 1 := fun b kb => (congrArg (fun x => fldI x 1) (hkc_107 b (by rw [kb]; decide))).trans (hfr204_1 b kb)
        have hfr204_3 : ∀ b, kd b = 204 → fldI (f_106 b) 3 = fldI (f b) 3 := fun b kb => (congrArg (fun x => fldI x 3) (hkc_107 b (by rw [kb]; decide))).trans (hfr204_3 b kb)
        have hrr2_0 : ∀ b, kd b = 2 → fldR (f_106 b) 0 = fldR (f b) 0 := fun b kb => (hrc_111 b kb).trans (hrr2_0 b kb)
        have hrr2_3 : ∀ b, kd b = 2 → fldR (f_106 b) 3 = fldR (f b) 3 := fun b kb => (hrc_112 b kb).trans (hrr2_3 b kb)
        obtain ⟨a_117, v_118, v_119, a_120, v_121, v_122, v_123, v_124, v_125, v_126, hfo_116, ⟨ma_117, ka_117⟩, ⟨ma_120, ka_120⟩, bv_121, bv_122, bv_123, bv_124, bv_125⟩ := un_2 (hG _ mo0) ko0
        have bv_118 : ((-2147483648) ≤ v_118.toInt ∧ v_118.toInt ≤ 2147483647) := ⟨i32_lo _, i32_hi _⟩
        have bv_119 : ((-2147483648) ≤ v_119.toInt ∧ v_119.toInt ≤ 2147483647) := ⟨i32_lo _, i32_hi _⟩
        have bv_126 : ((-2147483648) ≤ v_126.toInt ∧ v_126.toInt ≤ 2147483647) := ⟨i32_lo _, i32_hi _⟩
        obtain rfl : a_2 = a_117 := by have hk9 := hrr2_0 o0 ko0; rw [hfo_116, hfo_1] at hk9; exact (Option.some.inj hk9).symm
        obtain rfl : a_5 = a_120 := by have hk9 := hrr2_3 o0 ko0; rw [hfo_116, hfo_1] at hk9; exact (Option.some.inj hk9).symm
        obtain rfl : v_6 = v_121 := by have hk9 := hfc_108 o0 ko0; rw [hfo_116, hfo_93] at hk9; exact (Option.some.inj hk9).symm
        obtain rfl : v_9 = v_124 := by have hk9 := hfc_109 o0 ko0; rw [hfo_116, hfo_93] at hk9; exact (Option.some.inj hk9).symm
        obtain rfl : v_10 = v_125 := by have hk9 := hfc_110 o0 ko0; rw [hfo_116, hfo_93] at hk9; exact (Option.some.inj hk9).symm
        have hqhpost_113 := hpost_113 v_99 v_122 (by rw [hfo_93]; rfl) (by rw [hfo_116]; rfl)
        refine lv_if_eq (tgt := 78) hx hb dX2_readOp_67 (by decide) (fun c_127 => ?_) (fun c_127 => ?_)
        · skip
          rw [← Int32.toInt_inj, ti_0] at c_127
          refine lv_aload_n hx hb dX2_readOp_78 rfl (lv_at hl 1 rfl) ?_
          refine lv_iconst (v := 1) hx hb dX2_readOp_79 (by decide) ?_
          refine lv_iload_n hx hb dX2_readOp_80 rfl (lv_at hl 0 rfl) ?_
          refine tk_ViP (As := [.int 1, .int v_29]) (rest := []) (n := 2) hx hb hml hown hU hN hZ (s_X2_fail_k2 l (dC, dI) cI cL cZ cR cG cH Z kd L f_106 hG o0 mo0 ko0 1 v_29) wd_349 wd_350 wd_351 wd_33 wd_352 (by decide +kernel) ⟨Nat.le_of_ble_eq_true rfl, Nat.le_of_ble_eq_true rfl⟩ hK hP hD hS mo0 hfo_116 2 rfl rfl rfl hl.1 rfl (Nat.le_of_ble_eq_true rfl) dX2_readOp_81 ⟨Nat.le_of_ble_eq_true rfl, Nat.le_of_ble_eq_true rfl⟩ (fun x_128 f_129 H locs hw hP hD hS => ?_)
          obtain ⟨hG, bx_128, hkc_130, hfc_131, hfc_132, hfc_133, hfc_134, hrc_135, hrc_136⟩ := hw
          have hfo_138 : f_129 a_5 = .inl (cI, 600, .inl g_35) := by rw [hkc_130 a_5 (by rw [ka_5]; decide)]; exact hfo_115
          have hfr0 : ∀ b, kd b ≠ 2 → kd b ≠ 204 → f_129 b = f b := fun b q2 q204 => (hkc_130 b q2).trans (hfr0 b q2 q204)
          have hfr2_4 : ∀ b, kd b = 2 → fldI (f_129 b) 4 = fldI (f b) 4 := fun b kb => (hfc_131 b kb).trans (hfr2_4 b kb)
          have hfr2_7 : ∀ b, kd b = 2 → fldI (f_129 b) 7 = fldI (f b) 7 := fun b kb => (hfc_133 b kb).trans (hfr2_7 b kb)
          have hfr2_8 : ∀ b, kd b = 2 → fldI (f_129 b) 8 = fldI (f b) 8 := fun b kb => (hfc_134 b kb).trans (hfr2_8 b kb)
          have hfr204_1 : ∀ b, kd b = 204 → fldI (f_129 b) 1 = fldI (f b) 1 := fun b kb => (congrArg (fun x => fldI x 1) (hkc_130 b (by rw [kb]; decide))).trans (hfr204_1 b kb)
          have hfr204_3 : ∀ b, kd b = 204 → fldI (f_129 b) 3 = fldI (f b) 3 := fun b kb => (congrArg (fun x => fldI x 3) (hkc_130 b (by rw [kb]; decide))).trans (hfr204_3 b kb)
          have hrr2_0 : ∀ b, kd b = 2 → fldR (f_129 b) 0 = fldR (f b) 0 := fun b kb => (hrc_135 b kb).trans (hrr2_0 b kb)
          have hrr2_3 : ∀ b, kd b = 2 → fldR (f_129 b) 3 = fldR (f b) 3 := fun b kb => (hrc_136 b kb).trans (hrr2_3 b kb)
          obtain ⟨a_140, v_141, v_142, a_143, v_144, v_145, v_146, v_147, v_148, v_149, hfo_139, ⟨ma_140, ka_140⟩, ⟨ma_143, ka_143⟩, bv_144, bv_145, bv_146, bv_147, bv_148⟩ := un_2 (hG _ mo0) ko0
          have bv_141 : ((-2147483648) ≤ v_141.toInt ∧ v_141.toInt ≤ 2147483647) := ⟨i32_lo _, i32_hi _⟩
          have bv_142 : ((-2147483648) ≤ v_142.toInt ∧ v_142.toInt ≤ 2147483647) := ⟨i32_lo _, i32_hi _⟩
          have bv_149 : ((-2147483648) ≤ v_149.toInt ∧ v_149.toInt ≤ 2147483647) := ⟨i32_lo _, i32_hi _⟩
          obtain rfl : a_2 = a_140 := by have hk9 := hrr2_0 o0 ko0; rw [hfo_139, hfo_1] at hk9; exact (Option.some.inj hk9).symm
          obtain rfl : a_5 = a_143 := by have hk9 := hrr2_3 o0 ko0; rw [hfo_139, hfo_1] at hk9; exact (Option.some.inj hk9).symm
          obtain rfl : v_6 = v_144 := by have hk9 := hfc_131 o0 ko0; rw [hfo_139, hfo_116] at hk9; exact (Option.some.inj hk9).symm
          obtain rfl : v_122 = v_145 := by have hk9 := hfc_132 o0 ko0; rw [hfo_139, hfo_116] at hk9; exact (Option.some.inj hk9).symm
          obtain rfl : v_9 = v_147 := by have hk9 := hfc_133 o0 ko0; rw [hfo_139, hfo_116] at hk9; exact (Option.some.inj hk9).symm
          obtain rfl : v_10 = v_148 := by have hk9 := hfc_134 o0 ko0; rw [hfo_139, hfo_116] at hk9; exact (Option.some.inj hk9).symm
          exact W.zret (v := x_128) (ty := .boolean) hx hb hr (zb_n (by constructor <;> omega)) (fun t ht hW => ⟨⟨x_128, f_129, rfl, ⟨hG, (by constructor <;> omega), hfr0, hfr2_4, hfr2_7, hfr2_8, hfr204_1, hfr204_3, hrr2_0, hrr2_3⟩, by rw [ht]; exact hP, va_K.moved hW.alike hK, pl_in hD⟩, hS.F ht⟩) hS.2.2 dX2_readOp_84
        · skip
          rw [← Int32.toInt_inj, ti_0] at c_127
          refine lv_aload_n hx hb dX2_readOp_70 rfl (lv_at hl 2 rfl) ?_
          refine lv_iconst (v := 3) hx hb dX2_readOp_71 (by decide) ?_
          obtain ⟨v_151, v_152, v_153, v_154, a_155, a_156, a_157, a_158, v_159, v_160, v_161, hfo_150, bv_151, bv_152, bv_153, bv_154, ⟨ma_155, ka_155⟩, ⟨ma_156, ka_156⟩, ⟨ma_157, ka_157⟩, ⟨ma_158, ka_158⟩⟩ := un_204 (hG _ mo1) ko1
          have bv_159 : ((-2147483648) ≤ v_159.toInt ∧ v_159.toInt ≤ 2147483647) := ⟨i32_lo _, i32_hi _⟩
          have bv_160 : ((-2147483648) ≤ v_160.toInt ∧ v_160.toInt ≤ 2147483647) := ⟨i32_lo _, i32_hi _⟩
          have bv_161 : ((-2147483648) ≤ v_161.toInt ∧ v_161.toInt ≤ 2147483647) := ⟨i32_lo _, i32_hi _⟩
          refine tk_putP (D := (dC, dI)) (ci := 4) (v := .int 3) (ty := .int) (C := RX4) (T := TX4) (N := 11) hx hb hU inlX4 tyX4 tyX4_ok nmX4 hown hK hP hD hS mo1 hfo_150 rfl 2 (by decide) (hU _ wd_423) (fun _ h9 => h9) rfl (by decide +kernel) rfl rfl (Nat.le_of_ble_eq_true rfl) dX2_readOp_72 (fun H locs hP hD hS => ?_)
          obtain ⟨f_163, ef_163⟩ : ∃ y : Nat → va_E, y = va_up f_106 o1 (.inr (4, [.int v_151, .int v_152, .int 3, .int v_154, .ref a_155, .ref a_156, .ref a_157, .ref a_158, .int v_159, .int v_160, .int v_161])) := ⟨_, rfl⟩
          have hP : va_P (dC, dI) vwCl (va_pl L f_163) H := by rw [ef_163]; exact hP
          have hD : va_D (fun q => q ∈ L) (va_pl L f_163) := by rw [ef_163]; exact hD
          have hG : GI (okc cI cL cZ cR cG cH L kd) kd L f_163 := by rw [ef_163]; exact hG.set o1 (mk_204 ko1 ⟨v_151, v_152, 3, v_154, a_155, a_156, a_157, a_158, v_159, v_160, v_161, rfl, (by constructor <;> omega), (by constructor <;> omega), (by decide), (by constructor <;> omega), ⟨ma_155, ka_155⟩, ⟨ma_156, ka_156⟩, ⟨ma_157, ka_157⟩, ⟨ma_158, ka_158⟩⟩)
          have hfo_164 : f_163 a_5 = .inl (cI, 600, .inl g_35) := by rw [ef_163, up_ne (kd_ne ko1 ka_5 (by decide))]; exact hfo_115
          have hfo_165 : f_163 o0 = .inr (2, [.ref a_2, .int v_118, .int v_119, .ref a_5, .int v_6, .int v_122, .int v_123, .int v_9, .int v_10, .int v_126]) := by rw [ef_163, up_ne (kd_ne ko1 ko0 (by decide))]; exact hfo_116
          have hfr0 : ∀ b, kd b ≠ 2 → kd b ≠ 204 → f_163 b = f b := fun b q2 q204 => (congrFun ef_163 b).trans ((up_ne (fun e9 => q204 (by rw [e9]; exact ko1))).trans (hfr0 b q2 q204))
          have hfr2_4 : ∀ b, kd b = 2 → fldI (f_163 b) 4 = fldI (f b) 4 := fun b kb => (congrArg (fun x => fldI x 4) ((congrFun ef_163 b).trans (up_ne (kd_ne ko1 kb (by decide))))).trans (hfr2_4 b kb)
          have hfr2_7 : ∀ b, kd b = 2 → fldI (f_163 b) 7 = fldI (f b) 7 := fun b kb => (congrArg (fun x => fldI x 7) ((congrFun ef_163 b).trans (up_ne (kd_ne ko1 kb (by decide))))).trans (hfr2_7 b kb)
          have hfr2_8 : ∀ b, kd b = 2 → fldI (f_163 b) 8 = fldI (f b) 8 := fun b kb => (congrArg (fun x => fldI x 8) ((congrFun ef_163 b).trans (up_ne (kd_ne ko1 kb (by decide))))).trans (hfr2_8 b kb)
          have hfr204_1 : ∀ b, kd b = 204 → fldI (f_163 b) 1 = fldI (f b) 1 := fun b kb => ((congrArg (fun x => fldI x 1) (congrFun ef_163 b)).trans (fk_up (by rw [hfo_150]; rfl) b)).trans (hfr204_1 b kb)
          have hfr204_3 : ∀ b, kd b = 204 → fldI (f_163 b) 3 = fldI (f b) 3 := fun b kb => ((congrArg (fun x => fldI x 3) (congrFun ef_163 b)).trans (fk_up (by rw [hfo_150]; rfl) b)).trans (hfr204_3 b kb)
          have hrr2_0 : ∀ b, kd b = 2 → fldR (f_163 b) 0 = fldR (f b) 0 := fun b kb => (congrArg (fun x => fldR x 0) ((congrFun ef_163 b).trans (up_ne (kd_ne ko1 kb (by decide))))).trans (hrr2_0 b kb)
          have hrr2_3 : ∀ b, kd b = 2 → fldR (f_163 b) 3 = fldR (f b) 3 := fun b kb => (congrArg (fun x => fldR x 3) ((congrFun ef_163 b).trans (up_ne (kd_ne ko1 kb (by decide))))).trans (hrr2_3 b kb)
          have hfo_166 : f_163 o1 = .inr (4, [.int v_151, .int v_152, .int 3, .int v_154, .ref a_155, .ref a_156, .ref a_157, .ref a_158, .int v_159, .int v_160, .int v_161]) := by rw [ef_163]; exact up_self
          refine lv_goto (tgt := 85) hx hb dX2_readOp_75 (by decide) ?_
          refine lv_aload_n hx hb dX2_readOp_85 rfl (lv_at hl 2 rfl) ?_
          refine tk_getP (D := (dC, dI)) (ci := 4) (v := .int v_151) (C := RX4) (T := TX4) (N := 11) hx hb hU inlX4 hown hK hP mo1 hfo_166 rfl 0 (by decide) (hU _ wd_424) (fun _ h9 => h9) rfl dX2_readOp_86 ?_
          refine lv_if_ne (tgt := 108) hx hb dX2_readOp_89 (by decide) (fun c_167 => ?_) (fun c_167 => ?_)
          · skip
            rw [← Int32.toInt_inj, ti_0] at c_167
            refine lv_iconst (v := 1) hx hb dX2_readOp_108 (by decide) ?_
            refine lv_goto (tgt := 113) hx hb dX2_readOp_109 (by decide) ?_
            exact W.zret (v := 1) (ty := .boolean) hx hb hr rfl (fun t ht hW => ⟨⟨1, f_163, rfl, ⟨hG, (by decide), hfr0, hfr2_4, hfr2_7, hfr2_8, hfr204_1, hfr204_3, hrr2_0, hrr2_3⟩, by rw [ht]; exact hP, va_K.moved hW.alike hK, pl_in hD⟩, hS.F ht⟩) hS.2.2 dX2_readOp_113
          · skip
            rw [← Int32.toInt_inj, ti_0] at c_167
            refine lv_aload_n hx hb dX2_readOp_92 rfl (lv_at hl 2 rfl) ?_
            refine tk_NiP (As := []) (rest := []) (n := 0) hx hb hml hown hU hN hZ (s_X4_isAlways_k204 l (dC, dI) cI cL cZ cR cG cH Z kd L f_163 hG o1 mo1 ko1) hN.2.2.2.2.2.2.2.2.2.1 wd_429 wd_430 wd_90 wd_431 (by decide +kernel) ⟨Nat.le_of_ble_eq_true rfl, Nat.le_of_ble_eq_true rfl⟩ hK hP hD hS mo1 hfo_166 4 rfl rfl rfl hl.1 rfl (Nat.le_of_ble_eq_true rfl) dX2_readOp_93 ⟨Nat.le_of_ble_eq_true rfl, Nat.le_of_ble_eq_true rfl⟩ (fun x_168 f_169 H locs hw hP hD hS => ?_)
            obtain ⟨rfl, bx_168⟩ := hw
            refine lv_if_eq (tgt := 108) hx hb dX2_readOp_96 (by decide) (fun c_171 => ?_) (fun c_171 => ?_)
            · skip
              rw [← Int32.toInt_inj, ti_0] at c_171
              refine lv_iconst (v := 1) hx hb dX2_readOp_108 (by decide) ?_
              refine lv_goto (tgt := 113) hx hb dX2_readOp_109 (by decide) ?_
              exact W.zret (v := 1) (ty := .boolean) hx hb hr rfl (fun t ht hW => ⟨⟨1, f_163, rfl, ⟨hG, (by decide), hfr0, hfr2_4, hfr2_7, hfr2_8, hfr204_1, hfr204_3, hrr2_0, hrr2_3⟩, by rw [ht]; exact hP, va_K.moved hW.alike hK, pl_in hD⟩, hS.F ht⟩) hS.2.2 dX2_readOp_113
            · skip
              rw [← Int32.toInt_inj, ti_0] at c_171
              refine lv_aload_n hx hb dX2_readOp_99 rfl (lv_at hl 1 rfl) ?_
              refine lv_iconst (v := 2) hx hb dX2_readOp_100 (by decide) ?_
              refine lv_iload_n hx hb dX2_readOp_101 rfl (lv_at hl 0 rfl) ?_
              refine tk_ViP (As := [.int 2, .int v_29]) (rest := []) (n := 2) hx hb hml hown hU hN hZ (s_X2_fail_k2 l (dC, dI) cI cL cZ cR cG cH Z kd L f_163 hG o0 mo0 ko0 2 v_29) wd_349 wd_350 wd_351 wd_33 wd_352 (by decide +kernel) ⟨Nat.le_of_ble_eq_true rfl, Nat.le_of_ble_eq_true rfl⟩ hK hP hD hS mo0 hfo_165 2 rfl rfl rfl hl.1 rfl (Nat.le_of_ble_eq_true rfl) dX2_readOp_102 ⟨Nat.le_of_ble_eq_true rfl, Nat.le_of_ble_eq_true rfl⟩ (fun x_172 f_173 H locs hw hP hD hS => ?_)
              obtain ⟨hG, bx_172, hkc_174, hfc_175, hfc_176, hfc_177, hfc_178, hrc_179, hrc_180⟩ := hw
              have hfo_182 : f_173 a_5 = .inl (cI, 600, .inl g_35) := by rw [hkc_174 a_5 (by rw [ka_5]; decide)]; exact hfo_164
              have hfo_183 : f_173 o1 = .inr (4, [.int v_151, .int v_152, .int 3, .int v_154, .ref a_155, .ref a_156, .ref a_157, .ref a_158, .int v_159, .int v_160, .int v_161]) := by rw [hkc_174 o1 (by rw [ko1]; decide)]; exact hfo_166
              have hfr0 : ∀ b, kd b ≠ 2 → kd b ≠ 204 → f_173 b = f b := fun b q2 q204 => (hkc_174 b q2).trans (hfr0 b q2 q204)
              have hfr2_4 : ∀ b, kd b = 2 → fldI (f_173 b) 4 = fldI (f b) 4 := fun b kb => (hfc_175 b kb).trans (hfr2_4 b kb)
              have hfr2_7 : ∀ b, kd b = 2 → fldI (f_173 b) 7 = fldI (f b) 7 := fun b kb => (hfc_177 b kb).trans (hfr2_7 b kb)
              have hfr2_8 : ∀ b, kd b = 2 → fldI (f_173 b) 8 = fldI (f b) 8 := fun b kb => (hfc_178 b kb).trans (hfr2_8 b kb)
              have hfr204_1 : ∀ b, kd b = 204 → fldI (f_173 b) 1 = fldI (f b) 1 := fun b kb => (congrArg (fun x => fldI x 1) (hkc_174 b (by rw [kb]; decide))).trans (hfr204_1 b kb)
              have hfr204_3 : ∀ b, kd b = 204 → fldI (f_173 b) 3 = fldI (f b) 3 := fun b kb => (congrArg (fun x => fldI x 3) (hkc_174 b (by rw [kb]; decide))).trans (hfr204_3 b kb)
              have hrr2_0 : ∀ b, kd b = 2 → fldR (f_173 b) 0 = fldR (f b) 0 := fun b kb => (hrc_179 b kb).trans (hrr2_0 b kb)
              have hrr2_3 : ∀ b, kd b = 2 → fldR (f_173 b) 3 = fldR (f b) 3 := fun b kb => (hrc_180 b kb).trans (hrr2_3 b kb)
              obtain ⟨a_185, v_186, v_187, a_188, v_189, v_190, v_191, v_192, v_193, v_194, hfo_184, ⟨ma_185, ka_185⟩, ⟨ma_188, ka_188⟩, bv_189, bv_190, bv_191, bv_192, bv_193⟩ := un_2 (hG _ mo0) ko0
              have bv_186 : ((-2147483648) ≤ v_186.toInt ∧ v_186.toInt ≤ 2147483647) := ⟨i32_lo _, i32_hi _⟩
              have bv_187 : ((-2147483648) ≤ v_187.toInt ∧ v_187.toInt ≤ 2147483647) := ⟨i32_lo _, i32_hi _⟩
              have bv_194 : ((-2147483648) ≤ v_194.toInt ∧ v_194.toInt ≤ 2147483647) := ⟨i32_lo _, i32_hi _⟩
              obtain rfl : a_2 = a_185 := by have hk9 := hrr2_0 o0 ko0; rw [hfo_184, hfo_1] at hk9; exact (Option.some.inj hk9).symm
              obtain rfl : a_5 = a_188 := by have hk9 := hrr2_3 o0 ko0; rw [hfo_184, hfo_1] at hk9; exact (Option.some.inj hk9).symm
              obtain rfl : v_6 = v_189 := by have hk9 := hfc_175 o0 ko0; rw [hfo_184, hfo_165] at hk9; exact (Option.some.inj hk9).symm
              obtain rfl : v_122 = v_190 := by have hk9 := hfc_176 o0 ko0; rw [hfo_184, hfo_165] at hk9; exact (Option.some.inj hk9).symm
              obtain rfl : v_9 = v_192 := by have hk9 := hfc_177 o0 ko0; rw [hfo_184, hfo_165] at hk9; exact (Option.some.inj hk9).symm
              obtain rfl : v_10 = v_193 := by have hk9 := hfc_178 o0 ko0; rw [hfo_184, hfo_165] at hk9; exact (Option.some.inj hk9).symm
              refine lv_if_eq (tgt := 112) hx hb dX2_readOp_105 (by decide) (fun c_195 => ?_) (fun c_195 => ?_)
              · skip
                rw [← Int32.toInt_inj, ti_0] at c_195
                refine lv_iconst (v := 0) hx hb dX2_readOp_112 (by decide) ?_
                exact W.zret (v := 0) (ty := .boolean) hx hb hr rfl (fun t ht hW => ⟨⟨0, f_173, rfl, ⟨hG, (by decide), hfr0, hfr2_4, hfr2_7, hfr2_8, hfr204_1, hfr204_3, hrr2_0, hrr2_3⟩, by rw [ht]; exact hP, va_K.moved hW.alike hK, pl_in hD⟩, hS.F ht⟩) hS.2.2 dX2_readOp_113
              · skip
                rw [← Int32.toInt_inj, ti_0] at c_195
                exfalso
                omega
      · skip
        rw [← Int32.toInt_inj, ti_0] at c_104
        refine lv_aload_n hx hb dX2_readOp_53 rfl (lv_at hl 2 rfl) ?_
        refine lv_iconst (v := 1) hx hb dX2_readOp_54 (by decide) ?_
        obtain ⟨v_197, v_198, v_199, v_200, a_201, a_202, a_203, a_204, v_205, v_206, v_207, hfo_196, bv_197, bv_198, bv_199, bv_200, ⟨ma_201, ka_201⟩, ⟨ma_202, ka_202⟩, ⟨ma_203, ka_203⟩, ⟨ma_204, ka_204⟩⟩ := un_204 (hG _ mo1) ko1
        have bv_205 : ((-2147483648) ≤ v_205.toInt ∧ v_205.toInt ≤ 2147483647) := ⟨i32_lo _, i32_hi _⟩
        have bv_206 : ((-2147483648) ≤ v_206.toInt ∧ v_206.toInt ≤ 2147483647) := ⟨i32_lo _, i32_hi _⟩
        have bv_207 : ((-2147483648) ≤ v_207.toInt ∧ v_207.toInt ≤ 2147483647) := ⟨i32_lo _, i32_hi _⟩
        refine tk_putP (D := (dC, dI)) (ci := 4) (v := .int 1) (ty := .int) (C := RX4) (T := TX4) (N := 11) hx hb hU inlX4 tyX4 tyX4_ok nmX4 hown hK hP hD hS mo1 hfo_196 rfl 2 (by decide) (hU _ wd_423) (fun _ h9 => h9) rfl (by decide +kernel) rfl rfl (Nat.le_of_ble_eq_true rfl) dX2_readOp_55 (fun H locs hP hD hS => ?_)
        obtain ⟨f_209, ef_209⟩ : ∃ y : Nat → va_E, y = va_up f_83 o1 (.inr (4, [.int v_197, .int v_198, .int 1, .int v_200, .ref a_201, .ref a_202, .ref a_203, .ref a_204, .int v_205, .int v_206, .int v_207])) := ⟨_, rfl⟩
        have hP : va_P (dC, dI) vwCl (va_pl L f_209) H := by rw [ef_209]; exact hP
        have hD : va_D (fun q => q ∈ L) (va_pl L f_209) := by rw [ef_209]; exact hD
        have hG : GI (okc cI cL cZ cR cG cH L kd) kd L f_209 := by rw [ef_209]; exact hG.set o1 (mk_204 ko1 ⟨v_197, v_198, 1, v_200, a_201, a_202, a_203, a_204, v_205, v_206, v_207, rfl, (by constructor <;> omega), (by constructor <;> omega), (by decide), (by constructor <;> omega), ⟨ma_201, ka_201⟩, ⟨ma_202, ka_202⟩, ⟨ma_203, ka_203⟩, ⟨ma_204, ka_204⟩⟩)
        have hfo_210 : f_209 a_5 = .inl (cI, 600, .inl g_35) := by rw [ef_209, up_ne (kd_ne ko1 ka_5 (by decide))]; exact hfo_92
        have hfo_211 : f_209 o0 = .inr (2, [.ref a_2, .int v_95, .int v_96, .ref a_5, .int v_6, .int v_99, .int v_100, .int v_9, .int v_10, .int v_103]) := by rw [ef_209, up_ne (kd_ne ko1 ko0 (by decide))]; exact hfo_93
        have hfr0 : ∀ b, kd b ≠ 2 → kd b ≠ 204 → f_209 b = f b := fun b q2 q204 => (congrFun ef_209 b).trans ((up_ne (fun e9 => q204 (by rw [e9]; exact ko1))).trans (hfr0 b q2 q204))
        have hfr2_4 : ∀ b, kd b = 2 → fldI (f_209 b) 4 = fldI (f b) 4 := fun b kb => (congrArg (fun x => fldI x 4) ((congrFun ef_209 b).trans (up_ne (kd_ne ko1 kb (by decide))))).trans (hfr2_4 b kb)
        have hfr2_7 : ∀ b, kd b = 2 → fldI (f_209 b) 7 = fldI (f b) 7 := fun b kb => (congrArg (fun x => fldI x 7) ((congrFun ef_209 b).trans (up_ne (kd_ne ko1 kb (by decide))))).trans (hfr2_7 b kb)
        have hfr2_8 : ∀ b, kd b = 2 → fldI (f_209 b) 8 = fldI (f b) 8 := fun b kb => (congrArg (fun x => fldI x 8) ((congrFun ef_209 b).trans (up_ne (kd_ne ko1 kb (by decide))))).trans (hfr2_8 b kb)
        have hfr204_1 : ∀ b, kd b = 204 → fldI (f_209 b) 1 = fldI (f b) 1 := fun b kb => ((congrArg (fun x => fldI x 1) (congrFun ef_209 b)).trans (fk_up (by rw [hfo_196]; rfl) b)).trans (hfr204_1 b kb)
        have hfr204_3 : ∀ b, kd b = 204 → fldI (f_209 b) 3 = fldI (f b) 3 := fun b kb => ((congrArg (fun x => fldI x 3) (congrFun ef_209 b)).trans (fk_up (by rw [hfo_196]; rfl) b)).trans (hfr204_3 b kb)
        have hrr2_0 : ∀ b, kd b = 2 → fldR (f_209 b) 0 = fldR (f b) 0 := fun b kb => (congrArg (fun x => fldR x 0) ((congrFun ef_209 b).trans (up_ne (kd_ne ko1 kb (by decide))))).trans (hrr2_0 b kb)
        have hrr2_3 : ∀ b, kd b = 2 → fldR (f_209 b) 3 = fldR (f b) 3 := fun b kb => (congrArg (fun x => fldR x 3) ((congrFun ef_209 b).trans (up_ne (kd_ne ko1 kb (by decide))))).trans (hrr2_3 b kb)
        have hfo_212 : f_209 o1 = .inr (4, [.int v_197, .int v_198, .int 1, .int v_200, .ref a_201, .ref a_202, .ref a_203, .ref a_204, .int v_205, .int v_206, .int v_207]) := by rw [ef_209]; exact up_self
        refine lv_goto (tgt := 85) hx hb dX2_readOp_58 (by decide) ?_
        refine lv_aload_n hx hb dX2_readOp_85 rfl (lv_at hl 2 rfl) ?_
        refine tk_getP (D := (dC, dI)) (ci := 4) (v := .int v_197) (C := RX4) (T := TX4) (N := 11) hx hb hU inlX4 hown hK hP mo1 hfo_212 rfl 0 (by decide) (hU _ wd_424) (fun _ h9 => h9) rfl dX2_readOp_86 ?_
        refine lv_if_ne (tgt := 108) hx hb dX2_readOp_89 (by decide) (fun c_213 => ?_) (fun c_213 => ?_)
        · skip
          rw [← Int32.toInt_inj, ti_0] at c_213
          refine lv_iconst (v := 1) hx hb dX2_readOp_108 (by decide) ?_
          refine lv_goto (tgt := 113) hx hb dX2_readOp_109 (by decide) ?_
          exact W.zret (v := 1) (ty := .boolean) hx hb hr rfl (fun t ht hW => ⟨⟨1, f_209, rfl, ⟨hG, (by decide), hfr0, hfr2_4, hfr2_7, hfr2_8, hfr204_1, hfr204_3, hrr2_0, hrr2_3⟩, by rw [ht]; exact hP, va_K.moved hW.alike hK, pl_in hD⟩, hS.F ht⟩) hS.2.2 dX2_readOp_113
        · skip
          rw [← Int32.toInt_inj, ti_0] at c_213
          refine lv_aload_n hx hb dX2_readOp_92 rfl (lv_at hl 2 rfl) ?_
          refine tk_NiP (As := []) (rest := []) (n := 0) hx hb hml hown hU hN hZ (s_X4_isAlways_k204 l (dC, dI) cI cL cZ cR cG cH Z kd L f_209 hG o1 mo1 ko1) hN.2.2.2.2.2.2.2.2.2.1 wd_429 wd_430 wd_90 wd_431 (by decide +kernel) ⟨Nat.le_of_ble_eq_true rfl, Nat.le_of_ble_eq_true rfl⟩ hK hP hD hS mo1 hfo_212 4 rfl rfl rfl hl.1 rfl (Nat.le_of_ble_eq_true rfl) dX2_readOp_93 ⟨Nat.le_of_ble_eq_true rfl, Nat.le_of_ble_eq_true rfl⟩ (fun x_214 f_215 H locs hw hP hD hS => ?_)
          obtain ⟨rfl, bx_214⟩ := hw
          refine lv_if_eq (tgt := 108) hx hb dX2_readOp_96 (by decide) (fun c_217 => ?_) (fun c_217 => ?_)
          · skip
            rw [← Int32.toInt_inj, ti_0] at c_217
            refine lv_iconst (v := 1) hx hb dX2_readOp_108 (by decide) ?_
            refine lv_goto (tgt := 113) hx hb dX2_readOp_109 (by decide) ?_
            exact W.zret (v := 1) (ty := .boolean) hx hb hr rfl (fun t ht hW => ⟨⟨1, f_209, rfl, ⟨hG, (by decide), hfr0, hfr2_4, hfr2_7, hfr2_8, hfr204_1, hfr204_3, hrr2_0, hrr2_3⟩, by rw [ht]; exact hP, va_K.moved hW.alike hK, pl_in hD⟩, hS.F ht⟩) hS.2.2 dX2_readOp_113
          · skip
            rw [← Int32.toInt_inj, ti_0] at c_217
            refine lv_aload_n hx hb dX2_readOp_99 rfl (lv_at hl 1 rfl) ?_
            refine lv_iconst (v := 2) hx hb dX2_readOp_100 (by decide) ?_
            refine lv_iload_n hx hb dX2_readOp_101 rfl (lv_at hl 0 rfl) ?_
            refine tk_ViP (As := [.int 2, .int v_29]) (rest := []) (n := 2) hx hb hml hown hU hN hZ (s_X2_fail_k2 l (dC, dI) cI cL cZ cR cG cH Z kd L f_209 hG o0 mo0 ko0 2 v_29) wd_349 wd_350 wd_351 wd_33 wd_352 (by decide +kernel) ⟨Nat.le_of_ble_eq_true rfl, Nat.le_of_ble_eq_true rfl⟩ hK hP hD hS mo0 hfo_211 2 rfl rfl rfl hl.1 rfl (Nat.le_of_ble_eq_true rfl) dX2_readOp_102 ⟨Nat.le_of_ble_eq_true rfl, Nat.le_of_ble_eq_true rfl⟩ (fun x_218 f_219 H locs hw hP hD hS => ?_)
            obtain ⟨hG, bx_218, hkc_220, hfc_221, hfc_222, hfc_223, hfc_224, hrc_225, hrc_226⟩ := hw
            have hfo_228 : f_219 a_5 = .inl (cI, 600, .inl g_35) := by rw [hkc_220 a_5 (by rw [ka_5]; decide)]; exact hfo_210
            have hfo_229 : f_219 o1 = .inr (4, [.int v_197, .int v_198, .int 1, .int v_200, .ref a_201, .ref a_202, .ref a_203, .ref a_204, .int v_205, .int v_206, .int v_207]) := by rw [hkc_220 o1 (by rw [ko1]; decide)]; exact hfo_212
            have hfr0 : ∀ b, kd b ≠ 2 → kd b ≠ 204 → f_219 b = f b := fun b q2 q204 => (hkc_220 b q2).trans (hfr0 b q2 q204)
            have hfr2_4 : ∀ b, kd b = 2 → fldI (f_219 b) 4 = fldI (f b) 4 := fun b kb => (hfc_221 b kb).trans (hfr2_4 b kb)
            have hfr2_7 : ∀ b, kd b = 2 → fldI (f_219 b) 7 = fldI (f b) 7 := fun b kb => (hfc_223 b kb).trans (hfr2_7 b kb)
            have hfr2_8 : ∀ b, kd b = 2 → fldI (f_219 b) 8 = fldI (f b) 8 := fun b kb => (hfc_224 b kb).trans (hfr2_8 b kb)
            have hfr204_1 : ∀ b, kd b = 204 → fldI (f_219 b) 1 = fldI (f b) 1 := fun b kb => (congrArg (fun x => fldI x 1) (hkc_220 b (by rw [kb]; decide))).trans (hfr204_1 b kb)
            have hfr204_3 : ∀ b, kd b = 204 → fldI (f_219 b) 3 = fldI (f b) 3 := fun b kb => (congrArg (fun x => fldI x 3) (hkc_220 b (by rw [kb]; decide))).trans (hfr204_3 b kb)
            have hrr2_0 : ∀ b, kd b = 2 → fldR (f_219 b) 0 = fldR (f b) 0 := fun b kb => (hrc_225 b kb).trans (hrr2_0 b kb)
            have hrr2_3 : ∀ b, kd b = 2 → fldR (f_219 b) 3 = fldR (f b) 3 := fun b kb => (hrc_226 b kb).trans (hrr2_3 b kb)
            obtain ⟨a_231, v_232, v_233, a_234, v_235, v_236, v_237, v_238, v_239, v_240, hfo_230, ⟨ma_231, ka_231⟩, ⟨ma_234, ka_234⟩, bv_235, bv_236, bv_237, bv_238, bv_239⟩ := un_2 (hG _ mo0) ko0
            have bv_232 : ((-2147483648) ≤ v_232.toInt ∧ v_232.toInt ≤ 2147483647) := ⟨i32_lo _, i32_hi _⟩
            have bv_233 : ((-2147483648) ≤ v_233.toInt ∧ v_233.toInt ≤ 2147483647) := ⟨i32_lo _, i32_hi _⟩
            have bv_240 : ((-2147483648) ≤ v_240.toInt ∧ v_240.toInt ≤ 2147483647) := ⟨i32_lo _, i32_hi _⟩
            obtain rfl : a_2 = a_231 := by have hk9 := hrr2_0 o0 ko0; rw [hfo_230, hfo_1] at hk9; exact (Option.some.inj hk9).symm
            obtain rfl : a_5 = a_234 := by have hk9 := hrr2_3 o0 ko0; rw [hfo_230, hfo_1] at hk9; exact (Option.some.inj hk9).symm
            obtain rfl : v_6 = v_235 := by have hk9 := hfc_221 o0 ko0; rw [hfo_230, hfo_211] at hk9; exact (Option.some.inj hk9).symm
            obtain rfl : v_99 = v_236 := by have hk9 := hfc_222 o0 ko0; rw [hfo_230, hfo_211] at hk9; exact (Option.some.inj hk9).symm
            obtain rfl : v_9 = v_238 := by have hk9 := hfc_223 o0 ko0; rw [hfo_230, hfo_211] at hk9; exact (Option.some.inj hk9).symm
            obtain rfl : v_10 = v_239 := by have hk9 := hfc_224 o0 ko0; rw [hfo_230, hfo_211] at hk9; exact (Option.some.inj hk9).symm
            refine lv_if_eq (tgt := 112) hx hb dX2_readOp_105 (by decide) (fun c_241 => ?_) (fun c_241 => ?_)
            · skip
              rw [← Int32.toInt_inj, ti_0] at c_241
              refine lv_iconst (v := 0) hx hb dX2_readOp_112 (by decide) ?_
              exact W.zret (v := 0) (ty := .boolean) hx hb hr rfl (fun t ht hW => ⟨⟨0, f_219, rfl, ⟨hG, (by decide), hfr0, hfr2_4, hfr2_7, hfr2_8, hfr204_1, hfr204_3, hrr2_0, hrr2_3⟩, by rw [ht]; exact hP, va_K.moved hW.alike hK, pl_in hD⟩, hS.F ht⟩) hS.2.2 dX2_readOp_113
            · skip
              rw [← Int32.toInt_inj, ti_0] at c_241
              exfalso
              omega
    · skip
      rw [← Int32.toInt_inj, ti_0] at c_81
      refine lv_aload_n hx hb dX2_readOp_36 rfl (lv_at hl 2 rfl) ?_
      refine lv_iconst (v := 2) hx hb dX2_readOp_37 (by decide) ?_
      obtain ⟨v_243, v_244, v_245, v_246, a_247, a_248, a_249, a_250, v_251, v_252, v_253, hfo_242, bv_243, bv_244, bv_245, bv_246, ⟨ma_247, ka_247⟩, ⟨ma_248, ka_248⟩, ⟨ma_249, ka_249⟩, ⟨ma_250, ka_250⟩⟩ := un_204 (hG _ mo1) ko1
      have bv_251 : ((-2147483648) ≤ v_251.toInt ∧ v_251.toInt ≤ 2147483647) := ⟨i32_lo _, i32_hi _⟩
      have bv_252 : ((-2147483648) ≤ v_252.toInt ∧ v_252.toInt ≤ 2147483647) := ⟨i32_lo _, i32_hi _⟩
      have bv_253 : ((-2147483648) ≤ v_253.toInt ∧ v_253.toInt ≤ 2147483647) := ⟨i32_lo _, i32_hi _⟩
      refine tk_putP (D := (dC, dI)) (ci := 4) (v := .int 2) (ty := .int) (C := RX4) (T := TX4) (N := 11) hx hb hU inlX4 tyX4 tyX4_ok nmX4 hown hK hP hD hS mo1 hfo_242 rfl 2 (by decide) (hU _ wd_423) (fun _ h9 => h9) rfl (by decide +kernel) rfl rfl (Nat.le_of_ble_eq_true rfl) dX2_readOp_38 (fun H locs hP hD hS => ?_)
      obtain ⟨f_255, ef_255⟩ : ∃ y : Nat → va_E, y = va_up f_60 o1 (.inr (4, [.int v_243, .int v_244, .int 2, .int v_246, .ref a_247, .ref a_248, .ref a_249, .ref a_250, .int v_251, .int v_252, .int v_253])) := ⟨_, rfl⟩
      have hP : va_P (dC, dI) vwCl (va_pl L f_255) H := by rw [ef_255]; exact hP
      have hD : va_D (fun q => q ∈ L) (va_pl L f_255) := by rw [ef_255]; exact hD
      have hG : GI (okc cI cL cZ cR cG cH L kd) kd L f_255 := by rw [ef_255]; exact hG.set o1 (mk_204 ko1 ⟨v_243, v_244, 2, v_246, a_247, a_248, a_249, a_250, v_251, v_252, v_253, rfl, (by constructor <;> omega), (by constructor <;> omega), (by decide), (by constructor <;> omega), ⟨ma_247, ka_247⟩, ⟨ma_248, ka_248⟩, ⟨ma_249, ka_249⟩, ⟨ma_250, ka_250⟩⟩)
      have hfo_256 : f_255 a_5 = .inl (cI, 600, .inl g_35) := by rw [ef_255, up_ne (kd_ne ko1 ka_5 (by decide))]; exact hfo_69
      have hfo_257 : f_255 o0 = .inr (2, [.ref a_2, .int v_72, .int v_73, .ref a_5, .int v_6, .int v_76, .int v_77, .int v_9, .int v_10, .int v_80]) := by rw [ef_255, up_ne (kd_ne ko1 ko0 (by decide))]; exact hfo_70
      have hfr0 : ∀ b, kd b ≠ 2 → kd b ≠ 204 → f_255 b = f b := fun b q2 q204 => (congrFun ef_255 b).trans ((up_ne (fun e9 => q204 (by rw [e9]; exact ko1))).trans (hfr0 b q2 q204))
      have hfr2_4 : ∀ b, kd b = 2 → fldI (f_255 b) 4 = fldI (f b) 4 := fun b kb => (congrArg (fun x => fldI x 4) ((congrFun ef_255 b).trans (up_ne (kd_ne ko1 kb (by decide))))).trans (hfr2_4 b kb)
      have hfr2_7 : ∀ b, kd b = 2 → fldI (f_255 b) 7 = fldI (f b) 7 := fun b kb => (congrArg (fun x => fldI x 7) ((congrFun ef_255 b).trans (up_ne (kd_ne ko1 kb (by decide))))).trans (hfr2_7 b kb)
      have hfr2_8 : ∀ b, kd b = 2 → fldI (f_255 b) 8 = fldI (f b) 8 := fun b kb => (congrArg (fun x => fldI x 8) ((congrFun ef_255 b).trans (up_ne (kd_ne ko1 kb (by decide))))).trans (hfr2_8 b kb)
      have hfr204_1 : ∀ b, kd b = 204 → fldI (f_255 b) 1 = fldI (f b) 1 := fun b kb => ((congrArg (fun x => fldI x 1) (congrFun ef_255 b)).trans (fk_up (by rw [hfo_242]; rfl) b)).trans (hfr204_1 b kb)
      have hfr204_3 : ∀ b, kd b = 204 → fldI (f_255 b) 3 = fldI (f b) 3 := fun b kb => ((congrArg (fun x => fldI x 3) (congrFun ef_255 b)).trans (fk_up (by rw [hfo_242]; rfl) b)).trans (hfr204_3 b kb)
      have hrr2_0 : ∀ b, kd b = 2 → fldR (f_255 b) 0 = fldR (f b) 0 := fun b kb => (congrArg (fun x => fldR x 0) ((congrFun ef_255 b).trans (up_ne (kd_ne ko1 kb (by decide))))).trans (hrr2_0 b kb)
      have hrr2_3 : ∀ b, kd b = 2 → fldR (f_255 b) 3 = fldR (f b) 3 := fun b kb => (congrArg (fun x => fldR x 3) ((congrFun ef_255 b).trans (up_ne (kd_ne ko1 kb (by decide))))).trans (hrr2_3 b kb)
      have hfo_258 : f_255 o1 = .inr (4, [.int v_243, .int v_244, .int 2, .int v_246, .ref a_247, .ref a_248, .ref a_249, .ref a_250, .int v_251, .int v_252, .int v_253]) := by rw [ef_255]; exact up_self
      refine lv_goto (tgt := 85) hx hb dX2_readOp_41 (by decide) ?_
      refine lv_aload_n hx hb dX2_readOp_85 rfl (lv_at hl 2 rfl) ?_
      refine tk_getP (D := (dC, dI)) (ci := 4) (v := .int v_243) (C := RX4) (T := TX4) (N := 11) hx hb hU inlX4 hown hK hP mo1 hfo_258 rfl 0 (by decide) (hU _ wd_424) (fun _ h9 => h9) rfl dX2_readOp_86 ?_
      refine lv_if_ne (tgt := 108) hx hb dX2_readOp_89 (by decide) (fun c_259 => ?_) (fun c_259 => ?_)
      · skip
        rw [← Int32.toInt_inj, ti_0] at c_259
        refine lv_iconst (v := 1) hx hb dX2_readOp_108 (by decide) ?_
        refine lv_goto (tgt := 113) hx hb dX2_readOp_109 (by decide) ?_
        exact W.zret (v := 1) (ty := .boolean) hx hb hr rfl (fun t ht hW => ⟨⟨1, f_255, rfl, ⟨hG, (by decide), hfr0, hfr2_4, hfr2_7, hfr2_8, hfr204_1, hfr204_3, hrr2_0, hrr2_3⟩, by rw [ht]; exact hP, va_K.moved hW.alike hK, pl_in hD⟩, hS.F ht⟩) hS.2.2 dX2_readOp_113
      · skip
        rw [← Int32.toInt_inj, ti_0] at c_259
        refine lv_aload_n hx hb dX2_readOp_92 rfl (lv_at hl 2 rfl) ?_
        refine tk_NiP (As := []) (rest := []) (n := 0) hx hb hml hown hU hN hZ (s_X4_isAlways_k204 l (dC, dI) cI cL cZ cR cG cH Z kd L f_255 hG o1 mo1 ko1) hN.2.2.2.2.2.2.2.2.2.1 wd_429 wd_430 wd_90 wd_431 (by decide +kernel) ⟨Nat.le_of_ble_eq_true rfl, Nat.le_of_ble_eq_true rfl⟩ hK hP hD hS mo1 hfo_258 4 rfl rfl rfl hl.1 rfl (Nat.le_of_ble_eq_true rfl) dX2_readOp_93 ⟨Nat.le_of_ble_eq_true rfl, Nat.le_of_ble_eq_true rfl⟩ (fun x_260 f_261 H locs hw hP hD hS => ?_)
        obtain ⟨rfl, bx_260⟩ := hw
        refine lv_if_eq (tgt := 108) hx hb dX2_readOp_96 (by decide) (fun c_263 => ?_) (fun c_263 => ?_)
        · skip
          rw [← Int32.toInt_inj, ti_0] at c_263
          refine lv_iconst (v := 1) hx hb dX2_readOp_108 (by decide) ?_
          refine lv_goto (tgt := 113) hx hb dX2_readOp_109 (by decide) ?_
          exact W.zret (v := 1) (ty := .boolean) hx hb hr rfl (fun t ht hW => ⟨⟨1, f_255, rfl, ⟨hG, (by decide), hfr0, hfr2_4, hfr2_7, hfr2_8, hfr204_1, hfr204_3, hrr2_0, hrr2_3⟩, by rw [ht]; exact hP, va_K.moved hW.alike hK, pl_in hD⟩, hS.F ht⟩) hS.2.2 dX2_readOp_113
        · skip
          rw [← Int32.toInt_inj, ti_0] at c_263
          refine lv_aload_n hx hb dX2_readOp_99 rfl (lv_at hl 1 rfl) ?_
          refine lv_iconst (v := 2) hx hb dX2_readOp_100 (by decide) ?_
          refine lv_iload_n hx hb dX2_readOp_101 rfl (lv_at hl 0 rfl) ?_
          refine tk_ViP (As := [.int 2, .int v_29]) (rest := []) (n := 2) hx hb hml hown hU hN hZ (s_X2_fail_k2 l (dC, dI) cI cL cZ cR cG cH Z kd L f_255 hG o0 mo0 ko0 2 v_29) wd_349 wd_350 wd_351 wd_33 wd_352 (by decide +kernel) ⟨Nat.le_of_ble_eq_true rfl, Nat.le_of_ble_eq_true rfl⟩ hK hP hD hS mo0 hfo_257 2 rfl rfl rfl hl.1 rfl (Nat.le_of_ble_eq_true rfl) dX2_readOp_102 ⟨Nat.le_of_ble_eq_true rfl, Nat.le_of_ble_eq_true rfl⟩ (fun x_264 f_265 H locs hw hP hD hS => ?_)
          obtain ⟨hG, bx_264, hkc_266, hfc_267, hfc_268, hfc_269, hfc_270, hrc_271, hrc_272⟩ := hw
          have hfo_274 : f_265 a_5 = .inl (cI, 600, .inl g_35) := by rw [hkc_266 a_5 (by rw [ka_5]; decide)]; exact hfo_256
          have hfo_275 : f_265 o1 = .inr (4, [.int v_243, .int v_244, .int 2, .int v_246, .ref a_247, .ref a_248, .ref a_249, .ref a_250, .int v_251, .int v_252, .int v_253]) := by rw [hkc_266 o1 (by rw [ko1]; decide)]; exact hfo_258
          have hfr0 : ∀ b, kd b ≠ 2 → kd b ≠ 204 → f_265 b = f b := fun b q2 q204 => (hkc_266 b q2).trans (hfr0 b q2 q204)
          have hfr2_4 : ∀ b, kd b = 2 → fldI (f_265 b) 4 = fldI (f b) 4 := fun b kb => (hfc_267 b kb).trans (hfr2_4 b kb)
          have hfr2_7 : ∀ b, kd b = 2 → fldI (f_265 b) 7 = fldI (f b) 7 := fun b kb => (hfc_269 b kb).trans (hfr2_7 b kb)
          have hfr2_8 : ∀ b, kd b = 2 → fldI (f_265 b) 8 = fldI (f b) 8 := fun b kb => (hfc_270 b kb).trans (hfr2_8 b kb)
          have hfr204_1 : ∀ b, kd b = 204 → fldI (f_265 b) 1 = fldI (f b) 1 := fun b kb => (congrArg (fun x => fldI x 1) (hkc_266 b (by rw [kb]; decide))).trans (hfr204_1 b kb)
          have hfr204_3 : ∀ b, kd b = 204 → fldI (f_265 b) 3 = fldI (f b) 3 := fun b kb => (congrArg (fun x => fldI x 3) (hkc_266 b (by rw [kb]; decide))).trans (hfr204_3 b kb)
          have hrr2_0 : ∀ b, kd b = 2 → fldR (f_265 b) 0 = fldR (f b) 0 := fun b kb => (hrc_271 b kb).trans (hrr2_0 b kb)
          have hrr2_3 : ∀ b, kd b = 2 → fldR (f_265 b) 3 = fldR (f b) 3 := fun b kb => (hrc_272 b kb).trans (hrr2_3 b kb)
          obtain ⟨a_277, v_278, v_279, a_280, v_281, v_282, v_283, v_284, v_285, v_286, hfo_276, ⟨ma_277, ka_277⟩, ⟨ma_280, ka_280⟩, bv_281, bv_282, bv_283, bv_284, bv_285⟩ := un_2 (hG _ mo0) ko0
          have bv_278 : ((-2147483648) ≤ v_278.toInt ∧ v_278.toInt ≤ 2147483647) := ⟨i32_lo _, i32_hi _⟩
          have bv_279 : ((-2147483648) ≤ v_279.toInt ∧ v_279.toInt ≤ 2147483647) := ⟨i32_lo _, i32_hi _⟩
          have bv_286 : ((-2147483648) ≤ v_286.toInt ∧ v_286.toInt ≤ 2147483647) := ⟨i32_lo _, i32_hi _⟩
          obtain rfl : a_2 = a_277 := by have hk9 := hrr2_0 o0 ko0; rw [hfo_276, hfo_1] at hk9; exact (Option.some.inj hk9).symm
          obtain rfl : a_5 = a_280 := by have hk9 := hrr2_3 o0 ko0; rw [hfo_276, hfo_1] at hk9; exact (Option.some.inj hk9).symm
          obtain rfl : v_6 = v_281 := by have hk9 := hfc_267 o0 ko0; rw [hfo_276, hfo_257] at hk9; exact (Option.some.inj hk9).symm
          obtain rfl : v_76 = v_282 := by have hk9 := hfc_268 o0 ko0; rw [hfo_276, hfo_257] at hk9; exact (Option.some.inj hk9).symm
          obtain rfl : v_9 = v_284 := by have hk9 := hfc_269 o0 ko0; rw [hfo_276, hfo_257] at hk9; exact (Option.some.inj hk9).symm
          obtain rfl : v_10 = v_285 := by have hk9 := hfc_270 o0 ko0; rw [hfo_276, hfo_257] at hk9; exact (Option.some.inj hk9).symm
          refine lv_if_eq (tgt := 112) hx hb dX2_readOp_105 (by decide) (fun c_287 => ?_) (fun c_287 => ?_)
          · skip
            rw [← Int32.toInt_inj, ti_0] at c_287
            refine lv_iconst (v := 0) hx hb dX2_readOp_112 (by decide) ?_
            exact W.zret (v := 0) (ty := .boolean) hx hb hr rfl (fun t ht hW => ⟨⟨0, f_265, rfl, ⟨hG, (by decide), hfr0, hfr2_4, hfr2_7, hfr2_8, hfr204_1, hfr204_3, hrr2_0, hrr2_3⟩, by rw [ht]; exact hP, va_K.moved hW.alike hK, pl_in hD⟩, hS.F ht⟩) hS.2.2 dX2_readOp_113
          · skip
            rw [← Int32.toInt_inj, ti_0] at c_287
            exfalso
            omega
  · skip
    rw [← Int32.toInt_inj, ti_0] at c_58
    refine lv_aload_n hx hb dX2_readOp_19 rfl (lv_at hl 2 rfl) ?_
    refine lv_iconst (v := 0) hx hb dX2_readOp_20 (by decide) ?_
    obtain ⟨v_289, v_290, v_291, v_292, a_293, a_294, a_295, a_296, v_297, v_298, v_299, hfo_288, bv_289, bv_290, bv_291, bv_292, ⟨ma_293, ka_293⟩, ⟨ma_294, ka_294⟩, ⟨ma_295, ka_295⟩, ⟨ma_296, ka_296⟩⟩ := un_204 (hG _ mo1) ko1
    have bv_297 : ((-2147483648) ≤ v_297.toInt ∧ v_297.toInt ≤ 2147483647) := ⟨i32_lo _, i32_hi _⟩
    have bv_298 : ((-2147483648) ≤ v_298.toInt ∧ v_298.toInt ≤ 2147483647) := ⟨i32_lo _, i32_hi _⟩
    have bv_299 : ((-2147483648) ≤ v_299.toInt ∧ v_299.toInt ≤ 2147483647) := ⟨i32_lo _, i32_hi _⟩
    refine tk_putP (D := (dC, dI)) (ci := 4) (v := .int 0) (ty := .int) (C := RX4) (T := TX4) (N := 11) hx hb hU inlX4 tyX4 tyX4_ok nmX4 hown hK hP hD hS mo1 hfo_288 rfl 2 (by decide) (hU _ wd_423) (fun _ h9 => h9) rfl (by decide +kernel) rfl rfl (Nat.le_of_ble_eq_true rfl) dX2_readOp_21 (fun H locs hP hD hS => ?_)
    obtain ⟨f_301, ef_301⟩ : ∃ y : Nat → va_E, y = va_up f_37 o1 (.inr (4, [.int v_289, .int v_290, .int 0, .int v_292, .ref a_293, .ref a_294, .ref a_295, .ref a_296, .int v_297, .int v_298, .int v_299])) := ⟨_, rfl⟩
    have hP : va_P (dC, dI) vwCl (va_pl L f_301) H := by rw [ef_301]; exact hP
    have hD : va_D (fun q => q ∈ L) (va_pl L f_301) := by rw [ef_301]; exact hD
    have hG : GI (okc cI cL cZ cR cG cH L kd) kd L f_301 := by rw [ef_301]; exact hG.set o1 (mk_204 ko1 ⟨v_289, v_290, 0, v_292, a_293, a_294, a_295, a_296, v_297, v_298, v_299, rfl, (by constructor <;> omega), (by constructor <;> omega), (by decide), (by constructor <;> omega), ⟨ma_293, ka_293⟩, ⟨ma_294, ka_294⟩, ⟨ma_295, ka_295⟩, ⟨ma_296, ka_296⟩⟩)
    have hfo_302 : f_301 a_5 = .inl (cI, 600, .inl g_35) := by rw [ef_301, up_ne (kd_ne ko1 ka_5 (by decide))]; exact hfo_46
    have hfo_303 : f_301 o0 = .inr (2, [.ref a_2, .int v_49, .int v_50, .ref a_5, .int v_6, .int v_53, .int v_54, .int v_9, .int v_10, .int v_57]) := by rw [ef_301, up_ne (kd_ne ko1 ko0 (by decide))]; exact hfo_47
    have hfr0 : ∀ b, kd b ≠ 2 → kd b ≠ 204 → f_301 b = f b := fun b q2 q204 => (congrFun ef_301 b).trans ((up_ne (fun e9 => q204 (by rw [e9]; exact ko1))).trans (hfr0 b q2 q204))
    have hfr2_4 : ∀ b, kd b = 2 → fldI (f_301 b) 4 = fldI (f b) 4 := fun b kb => (congrArg (fun x => fldI x 4) ((congrFun ef_301 b).trans (up_ne (kd_ne ko1 kb (by decide))))).trans (hfr2_4 b kb)
    have hfr2_7 : ∀ b, kd b = 2 → fldI (f_301 b) 7 = fldI (f b) 7 := fun b kb => (congrArg (fun x => fldI x 7) ((congrFun ef_301 b).trans (up_ne (kd_ne ko1 kb (by decide))))).trans (hfr2_7 b kb)
    have hfr2_8 : ∀ b, kd b = 2 → fldI (f_301 b) 8 = fldI (f b) 8 := fun b kb => (congrArg (fun x => fldI x 8) ((congrFun ef_301 b).trans (up_ne (kd_ne ko1 kb (by decide))))).trans (hfr2_8 b kb)
    have hfr204_1 : ∀ b, kd b = 204 → fldI (f_301 b) 1 = fldI (f b) 1 := fun b kb => ((congrArg (fun x => fldI x 1) (congrFun ef_301 b)).trans (fk_up (by rw [hfo_288]; rfl) b)).trans (hfr204_1 b kb)
    have hfr204_3 : ∀ b, kd b = 204 → fldI (f_301 b) 3 = fldI (f b) 3 := fun b kb => ((congrArg (fun x => fldI x 3) (congrFun ef_301 b)).trans (fk_up (by rw [hfo_288]; rfl) b)).trans (hfr204_3 b kb)
    have hrr2_0 : ∀ b, kd b = 2 → fldR (f_301 b) 0 = fldR (f b) 0 := fun b kb => (congrArg (fun x => fldR x 0) ((congrFun ef_301 b).trans (up_ne (kd_ne ko1 kb (by decide))))).trans (hrr2_0 b kb)
    have hrr2_3 : ∀ b, kd b = 2 → fldR (f_301 b) 3 = fldR (f b) 3 := fun b kb => (congrArg (fun x => fldR x 3) ((congrFun ef_301 b).trans (up_ne (kd_ne ko1 kb (by decide))))).trans (hrr2_3 b kb)
    have hfo_304 : f_301 o1 = .inr (4, [.int v_289, .int v_290, .int 0, .int v_292, .ref a_293, .ref a_294, .ref a_295, .ref a_296, .int v_297, .int v_298, .int v_299]) := by rw [ef_301]; exact up_self
    refine lv_goto (tgt := 85) hx hb dX2_readOp_24 (by decide) ?_
    refine lv_aload_n hx hb dX2_readOp_85 rfl (lv_at hl 2 rfl) ?_
    refine tk_getP (D := (dC, dI)) (ci := 4) (v := .int v_289) (C := RX4) (T := TX4) (N := 11) hx hb hU inlX4 hown hK hP mo1 hfo_304 rfl 0 (by decide) (hU _ wd_424) (fun _ h9 => h9) rfl dX2_readOp_86 ?_
    refine lv_if_ne (tgt := 108) hx hb dX2_readOp_89 (by decide) (fun c_305 => ?_) (fun c_305 => ?_)
    · skip
      rw [← Int32.toInt_inj, ti_0] at c_305
      refine lv_iconst (v := 1) hx hb dX2_readOp_108 (by decide) ?_
      refine lv_goto (tgt := 113) hx hb dX2_readOp_109 (by decide) ?_
      exact W.zret (v := 1) (ty := .boolean) hx hb hr rfl (fun t ht hW => ⟨⟨1, f_301, rfl, ⟨hG, (by decide), hfr0, hfr2_4, hfr2_7, hfr2_8, hfr204_1, hfr204_3, hrr2_0, hrr2_3⟩, by rw [ht]; exact hP, va_K.moved hW.alike hK, pl_in hD⟩, hS.F ht⟩) hS.2.2 dX2_readOp_113
    · skip
      rw [← Int32.toInt_inj, ti_0] at c_305
      refine lv_aload_n hx hb dX2_readOp_92 rfl (lv_at hl 2 rfl) ?_
      refine tk_NiP (As := []) (rest := []) (n := 0) hx hb hml hown hU hN hZ (s_X4_isAlways_k204 l (dC, dI) cI cL cZ cR cG cH Z kd L f_301 hG o1 mo1 ko1) hN.2.2.2.2.2.2.2.2.2.1 wd_429 wd_430 wd_90 wd_431 (by decide +kernel) ⟨Nat.le_of_ble_eq_true rfl, Nat.le_of_ble_eq_true rfl⟩ hK hP hD hS mo1 hfo_304 4 rfl rfl rfl hl.1 rfl (Nat.le_of_ble_eq_true rfl) dX2_readOp_93 ⟨Nat.le_of_ble_eq_true rfl, Nat.le_of_ble_eq_true rfl⟩ (fun x_306 f_307 H locs hw hP hD hS => ?_)
      obtain ⟨rfl, bx_306⟩ := hw
      refine lv_if_eq (tgt := 108) hx hb dX2_readOp_96 (by decide) (fun c_309 => ?_) (fun c_309 => ?_)
      · skip
        rw [← Int32.toInt_inj, ti_0] at c_309
        refine lv_iconst (v := 1) hx hb dX2_readOp_108 (by decide) ?_
        refine lv_goto (tgt := 113) hx hb dX2_readOp_109 (by decide) ?_
        exact W.zret (v := 1) (ty := .boolean) hx hb hr rfl (fun t ht hW => ⟨⟨1, f_301, rfl, ⟨hG, (by decide), hfr0, hfr2_4, hfr2_7, hfr2_8, hfr204_1, hfr204_3, hrr2_0, hrr2_3⟩, by rw [ht]; exact hP, va_K.moved hW.alike hK, pl_in hD⟩, hS.F ht⟩) hS.2.2 dX2_readOp_113
      · skip
        rw [← Int32.toInt_inj, ti_0] at c_309
        refine lv_aload_n hx hb dX2_readOp_99 rfl (lv_at hl 1 rfl) ?_
        refine lv_iconst (v := 2) hx hb dX2_readOp_100 (by decide) ?_
        refine lv_iload_n hx hb dX2_readOp_101 rfl (lv_at hl 0 rfl) ?_
        refine tk_ViP (As := [.int 2, .int v_29]) (rest := []) (n := 2) hx hb hml hown hU hN hZ (s_X2_fail_k2 l (dC, dI) cI cL cZ cR cG cH Z kd L f_301 hG o0 mo0 ko0 2 v_29) wd_349 wd_350 wd_351 wd_33 wd_352 (by decide +kernel) ⟨Nat.le_of_ble_eq_true rfl, Nat.le_of_ble_eq_true rfl⟩ hK hP hD hS mo0 hfo_303 2 rfl rfl rfl hl.1 rfl (Nat.le_of_ble_eq_true rfl) dX2_readOp_102 ⟨Nat.le_of_ble_eq_true rfl, Nat.le_of_ble_eq_true rfl⟩ (fun x_310 f_311 H locs hw hP hD hS => ?_)
        obtain ⟨hG, bx_310, hkc_312, hfc_313, hfc_314, hfc_315, hfc_316, hrc_317, hrc_318⟩ := hw
        have hfo_320 : f_311 a_5 = .inl (cI, 600, .inl g_35) := by rw [hkc_312 a_5 (by rw [ka_5]; decide)]; exact hfo_302
        have hfo_321 : f_311 o1 = .inr (4, [.int v_289, .int v_290, .int 0, .int v_292, .ref a_293, .ref a_294, .ref a_295, .ref a_296, .int v_297, .int v_298, .int v_299]) := by rw [hkc_312 o1 (by rw [ko1]; decide)]; exact hfo_304
        have hfr0 : ∀ b, kd b ≠ 2 → kd b ≠ 204 → f_311 b = f b := fun b q2 q204 => (hkc_312 b q2).trans (hfr0 b q2 q204)
        have hfr2_4 : ∀ b, kd b = 2 → fldI (f_311 b) 4 = fldI (f b) 4 := fun b kb => (hfc_313 b kb).trans (hfr2_4 b kb)
        have hfr2_7 : ∀ b, kd b = 2 → fldI (f_311 b) 7 = fldI (f b) 7 := fun b kb => (hfc_315 b kb).trans (hfr2_7 b kb)
        have hfr2_8 : ∀ b, kd b = 2 → fldI (f_311 b) 8 = fldI (f b) 8 := fun b kb => (hfc_316 b kb).trans (hfr2_8 b kb)
        have hfr204_1 : ∀ b, kd b = 204 → fldI (f_311 b) 1 = fldI (f b) 1 := fun b kb => (congrArg (fun x => fldI x 1) (hkc_312 b (by rw [kb]; decide))).trans (hfr204_1 b kb)
        have hfr204_3 : ∀ b, kd b = 204 → fldI (f_311 b) 3 = fldI (f b) 3 := fun b kb => (congrArg (fun x => fldI x 3) (hkc_312 b (by rw [kb]; decide))).trans (hfr204_3 b kb)
        have hrr2_0 : ∀ b, kd b = 2 → fldR (f_311 b) 0 = fldR (f b) 0 := fun b kb => (hrc_317 b kb).trans (hrr2_0 b kb)
        have hrr2_3 : ∀ b, kd b = 2 → fldR (f_311 b) 3 = fldR (f b) 3 := fun b kb => (hrc_318 b kb).trans (hrr2_3 b kb)
        obtain ⟨a_323, v_324, v_325, a_326, v_327, v_328, v_329, v_330, v_331, v_332, hfo_322, ⟨ma_323, ka_323⟩, ⟨ma_326, ka_326⟩, bv_327, bv_328, bv_329, bv_330, bv_331⟩ := un_2 (hG _ mo0) ko0
        have bv_324 : ((-2147483648) ≤ v_324.toInt ∧ v_324.toInt ≤ 2147483647) := ⟨i32_lo _, i32_hi _⟩
        have bv_325 : ((-2147483648) ≤ v_325.toInt ∧ v_325.toInt ≤ 2147483647) := ⟨i32_lo _, i32_hi _⟩
        have bv_332 : ((-2147483648) ≤ v_332.toInt ∧ v_332.toInt ≤ 2147483647) := ⟨i32_lo _, i32_hi _⟩
        obtain rfl : a_2 = a_323 := by have hk9 := hrr2_0 o0 ko0; rw [hfo_322, hfo_1] at hk9; exact (Option.some.inj hk9).symm
        obtain rfl : a_5 = a_326 := by have hk9 := hrr2_3 o0 ko0; rw [hfo_322, hfo_1] at hk9; exact (Option.some.inj hk9).symm
        obtain rfl : v_6 = v_327 := by have hk9 := hfc_313 o0 ko0; rw [hfo_322, hfo_303] at hk9; exact (Option.some.inj hk9).symm
        obtain rfl : v_53 = v_328 := by have hk9 := hfc_314 o0 ko0; rw [hfo_322, hfo_303] at hk9; exact (Option.some.inj hk9).symm
        obtain rfl : v_9 = v_330 := by have hk9 := hfc_315 o0 ko0; rw [hfo_322, hfo_303] at hk9; exact (Option.some.inj hk9).symm
        obtain rfl : v_10 = v_331 := by have hk9 := hfc_316 o0 ko0; rw [hfo_322, hfo_303] at hk9; exact (Option.some.inj hk9).symm
        refine lv_if_eq (tgt := 112) hx hb dX2_readOp_105 (by decide) (fun c_333 => ?_) (fun c_333 => ?_)
        · skip
          rw [← Int32.toInt_inj, ti_0] at c_333
          refine lv_iconst (v := 0) hx hb dX2_readOp_112 (by decide) ?_
          exact W.zret (v := 0) (ty := .boolean) hx hb hr rfl (fun t ht hW => ⟨⟨0, f_311, rfl, ⟨hG, (by decide), hfr0, hfr2_4, hfr2_7, hfr2_8, hfr204_1, hfr204_3, hrr2_0, hrr2_3⟩, by rw [ht]; exact hP, va_K.moved hW.alike hK, pl_in hD⟩, hS.F ht⟩) hS.2.2 dX2_readOp_113
        · skip
          rw [← Int32.toInt_inj, ti_0] at c_333
          exfalso
          omega
