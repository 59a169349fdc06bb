set_option maxHeartbeats 8000000 in
set_option maxRecDepth 100000 in
theorem s_X2_readPair_k2 (l : Launch) (D : va_G) (cI cL cZ cR cG cH : ClassId) (Z : zT) (kd : Nat → Nat) (L : List Nat) (f : Nat → va_E) (hG : GI (okc cI cL cZ cR cG cH L kd) kd L f) (o0 : Nat) (mo0 : o0 ∈ L) (ko0 : kd o0 = 2) (hxtr0 : ∀ d9, fldR (f o0) 0 = some d9 → trel kd 207 566 568 573 204 f d9) : mPI l D cI cL cZ cR cG cH Z yX2_readPair cX2_readPair 2 (some .boolean) 3 62 [.ref o0] L f (fun (r : Int32) (f9 : Nat → va_E) => GI (okc cI cL cZ cR cG cH L kd) kd L f9 ∧ (0 ≤ r.toInt ∧ r.toInt ≤ 1) ∧ (∀ b, kd b ≠ 2 → kd b ≠ 207 → kd b ≠ 568 → kd b ≠ 569 → kd b ≠ 570 → kd b ≠ 571 → kd b ≠ 572 → f9 b = f b) ∧ (∀ b, kd b = 2 → fldI (f9 b) 4 = fldI (f b) 4) ∧ (∀ b, kd b = 207 → fldI (f9 b) 1 = fldI (f b) 1) ∧ (∀ b, kd b = 207 → fldI (f9 b) 12 = fldI (f b) 12) ∧ (∀ b, kd b = 2 → fldR (f9 b) 0 = fldR (f b) 0) ∧ (∀ b, kd b = 2 → fldR (f9 b) 3 = fldR (f b) 3) ∧ (∀ b, kd b = 207 → fldR (f9 b) 0 = fldR (f b) 0) ∧ (∀ b, kd b = 207 → fldR (f9 b) 3 = fldR (f b) 3) ∧ (∀ b, kd b = 207 → fldR (f9 b) 11 = fldR (f b) 11) ∧ (∀ (w5 z5 : Int32), fldI (f o0) 5 = some w5 → fldI (f9 o0) 5 = some z5 → w5.toInt ≤ z5.toInt) ∧ (∀ d9 n9 z9, fldR (f9 o0) 0 = some d9 → fldI (f9 d9) 1 = some n9 → fldI (f9 o0) 8 = some z9 → r.toInt = 0 ∨ z9.toInt ≤ n9.toInt) ∧ (∀ d9, fldR (f9 o0) 0 = some d9 → trel kd 207 566 568 573 204 f9 d9)) := by
  obtain ⟨dC, dI⟩ := D
  refine Met.ofW (cc := cX2_readPair) (maxL := 2) (ret := (some .boolean)) (by decide) rfl ?_
  intro p e s m args below meth c s₁ B hml hv
  obtain ⟨rfl, hP, hK, hD0, hN, hZ⟩ := hv
  have hx := B.exec
  have hb := B.bytes
  have hr := B.returns
  have hU : ∀ w ∈ wsU, w.before _ s = true := fun w h => atoms_spec (ws := wU yX2_readPair cX2_readPair 2 (some .boolean)) B.pre w (List.mem_cons_of_mem _ h)
  have hown : s.vm.findClass RX2 = some m.cls := findClass_of_methodNamed B.named
  have hlocks := B.notSynchronized
  have hD := pl_in hD0
  have hS : va_S (fun q => q ∈ L) s.heap s.heap [] := va_S.rf
  have hl := lv_entry ([.ref o0]) (n := 2) (Nat.le_of_ble_eq_true rfl)
  rw [lg_entry_eq]
  generalize (lg_sl ([.ref o0]) ++ List.replicate (2 - (lg_sl ([.ref o0])).length) Slot.unset).toArray = ls at hl ⊢
  have hl : lv_has ls 2 [(0, .ref o0)] := hl
  have hfr0 : ∀ b, kd b ≠ 2 → kd b ≠ 207 → kd b ≠ 568 → kd b ≠ 569 → kd b ≠ 570 → kd b ≠ 571 → kd b ≠ 572 → f b = f b := fun _ _ _ _ _ _ _ _ => rfl
  have hfr2_4 : ∀ b, kd b = 2 → fldI (f b) 4 = fldI (f b) 4 := fun _ _ => rfl
  have hfr207_1 : ∀ b, kd b = 207 → fldI (f b) 1 = fldI (f b) 1 := fun _ _ => rfl
  have hfr207_12 : ∀ b, kd b = 207 → fldI (f b) 12 = fldI (f b) 12 := fun _ _ => rfl
  have hrr2_0 : ∀ b, kd b = 2 → fldR (f b) 0 = fldR (f b) 0 := fun _ _ => rfl
  have hrr2_3 : ∀ b, kd b = 2 → fldR (f b) 3 = fldR (f b) 3 := fun _ _ => rfl
  have hrr207_0 : ∀ b, kd b = 207 → fldR (f b) 0 = fldR (f b) 0 := fun _ _ => rfl
  have hrr207_3 : ∀ b, kd b = 207 → fldR (f b) 3 = fldR (f b) 3 := fun _ _ => rfl
  have hrr207_11 : ∀ b, kd b = 207 → fldR (f b) 11 = fldR (f b) 11 := fun _ _ => rfl
  obtain ⟨a_2, v_3, v_4, a_5, v_6, v_7, v_8, v_9, v_10, v_11, hfo_1, ⟨ma_2, ka_2⟩, ⟨ma_5, ka_5⟩, bv_6, bv_7, bv_8, bv_9, bv_10⟩ := un_2 (hG _ mo0) ko0
  have bv_3 : ((-2147483648) ≤ v_3.toInt ∧ v_3.toInt ≤ 2147483647) := ⟨i32_lo _, i32_hi _⟩
  have bv_4 : ((-2147483648) ≤ v_4.toInt ∧ v_4.toInt ≤ 2147483647) := ⟨i32_lo _, i32_hi _⟩
  have bv_11 : ((-2147483648) ≤ v_11.toInt ∧ v_11.toInt ≤ 2147483647) := ⟨i32_lo _, i32_hi _⟩
  have hT0 := hxtr0 a_2 (by rw [hfo_1]; rfl)
  refine lv_aload_n hx hb dX2_readPair_0 rfl (lv_at hl 0 rfl) ?_
  refine tk_ViP (As := []) (rest := []) (n := 0) hx hb hml hown hU hN hZ (s_X2_peek_k2 l (dC, dI) cI cL cZ cR cG cH Z kd L f hG o0 mo0 ko0) wd_274 wd_275 wd_276 wd_33 wd_277 (by decide +kernel) ⟨Nat.le_of_ble_eq_true rfl, Nat.le_of_ble_eq_true rfl⟩ hK hP hD hS mo0 hfo_1 2 rfl rfl rfl hl.1 rfl (Nat.le_of_ble_eq_true rfl) dX2_readPair_1 ⟨Nat.le_of_ble_eq_true rfl, Nat.le_of_ble_eq_true rfl⟩ (fun x_12 f_13 H locs hw hP hD hS => ?_)
  obtain ⟨hG, bx_12, hkc_14, hfc_15, hfc_16, hfc_17, hrc_18, hrc_19, hpost_20, hxp_21⟩ := hw
  have hfr0 : ∀ b, kd b ≠ 2 → kd b ≠ 207 → kd b ≠ 568 → kd b ≠ 569 → kd b ≠ 570 → kd b ≠ 571 → kd b ≠ 572 → f_13 b = f b := fun b q2 q207 q568 q569 q570 q571 q572 => (hkc_14 b q2).trans (hfr0 b q2 q207 q568 q569 q570 q571 q572)
  have hfr2_4 : ∀ b, kd b = 2 → fldI (f_13 b) 4 = fldI (f b) 4 := fun b kb => (hfc_15 b kb).trans (hfr2_4 b kb)
  have hfr207_1 : ∀ b, kd b = 207 → fldI (f_13 b) 1 = fldI (f b) 1 := fun b kb => (congrArg (fun x => fldI x 1) (hkc_14 b (by rw [kb]; decide))).trans (hfr207_1 b kb)
  have hfr207_12 : ∀ b, kd b = 207 → fldI (f_13 b) 12 = fldI (f b) 12 := fun b kb => (congrArg (fun x => fldI x 12) (hkc_14 b (by rw [kb]; decide))).trans (hfr207_12 b kb)
  have hrr2_0 : ∀ b, kd b = 2 → fldR (f_13 b) 0 = fldR (f b) 0 := fun b kb => (hrc_18 b kb).trans (hrr2_0 b kb)
  have hrr2_3 : ∀ b, kd b = 2 → fldR (f_13 b) 3 = fldR (f b) 3 := fun b kb => (hrc_19 b kb).trans (hrr2_3 b kb)
  have hrr207_0 : ∀ b, kd b = 207 → fldR (f_13 b) 0 = fldR (f b) 0 := fun b kb => (congrArg (fun x => fldR x 0) (hkc_14 b (by rw [kb]; decide))).trans (hrr207_0 b kb)
  have hrr207_3 : ∀ b, kd b = 207 → fldR (f_13 b) 3 = fldR (f b) 3 := fun b kb => (congrArg (fun x => fldR x 3) (hkc_14 b (by rw [kb]; decide))).trans (hrr207_3 b kb)
  have hrr207_11 : ∀ b, kd b = 207 → fldR (f_13 b) 11 = fldR (f b) 11 := fun b kb => (congrArg (fun x => fldR x 11) (hkc_14 b (by rw [kb]; decide))).trans (hrr207_11 b kb)
  have hT0 : trel kd 207 566 568 573 204 f_13 a_2 := hT0.keep (fun b q => hkc_14 b (by rw [q]; decide)) (fun b q => hkc_14 b (by rw [q]; decide)) (fun b q => hkc_14 b (by rw [q]; decide)) (fun b q => hkc_14 b (by rw [q]; decide)) (fun b q => congrArg (fun x => fldI x 1) (hkc_14 b (by rw [q]; decide)))
  obtain ⟨a_24, v_25, v_26, a_27, v_28, v_29, v_30, v_31, v_32, v_33, hfo_23, ⟨ma_24, ka_24⟩, ⟨ma_27, ka_27⟩, bv_28, bv_29, bv_30, bv_31, bv_32⟩ := un_2 (hG _ mo0) ko0
  have bv_25 : ((-2147483648) ≤ v_25.toInt ∧ v_25.toInt ≤ 2147483647) := ⟨i32_lo _, i32_hi _⟩
  have bv_26 : ((-2147483648) ≤ v_26.toInt ∧ v_26.toInt ≤ 2147483647) := ⟨i32_lo _, i32_hi _⟩
  have bv_33 : ((-2147483648) ≤ v_33.toInt ∧ v_33.toInt ≤ 2147483647) := ⟨i32_lo _, i32_hi _⟩
  obtain rfl : a_2 = a_24 := by have hk9 := hrr2_0 o0 ko0; rw [hfo_23, hfo_1] at hk9; exact (Option.some.inj hk9).symm
  obtain rfl : a_5 = a_27 := by have hk9 := hrr2_3 o0 ko0; rw [hfo_23, hfo_1] at hk9; exact (Option.some.inj hk9).symm
  obtain rfl : v_6 = v_28 := by have hk9 := hfc_15 o0 ko0; rw [hfo_23, hfo_1] at hk9; exact (Option.some.inj hk9).symm
  obtain rfl : v_9 = v_31 := by have hk9 := hfc_16 o0 ko0; rw [hfo_23, hfo_1] at hk9; exact (Option.some.inj hk9).symm
  obtain rfl : v_10 = v_32 := by have hk9 := hfc_17 o0 ko0; rw [hfo_23, hfo_1] at hk9; exact (Option.some.inj hk9).symm
  have hqhpost_20 := hpost_20 v_7 v_29 (by rw [hfo_1]; rfl) (by rw [hfo_23]; rfl)
  obtain ⟨g_35, hfo_34, hbg_35⟩ := un_533 (hG _ ma_5) ka_5
  have hpkx_12 := hxp_21 a_5 g_35 v_29 (by rw [hfo_23]; rfl) hfo_34 (by rw [hfo_23]; rfl)
  refine lv_pop hx hb dX2_readPair_4 rfl ?_
  refine lv_aload_n hx hb dX2_readPair_5 rfl (lv_at hl 0 rfl) ?_
  refine tk_getP (D := (dC, dI)) (ci := 2) (v := .int v_29) (C := RX2) (T := TX2) (N := 10) hx hb hU inlX2 hown hK hP mo0 hfo_23 rfl 5 (by decide) (hU _ wd_256) (fun _ h9 => h9) rfl dX2_readPair_6 ?_
  refine lv_istore_n (lv' := [(1, .int v_29), (0, .ref o0)]) hx hb dX2_readPair_9 rfl hl (by decide) rfl (fun ls hl => ?_)
  refine lv_aload_n hx hb dX2_readPair_10 rfl (lv_at hl 1 rfl) ?_
  refine tk_ViP (As := []) (rest := []) (n := 0) hx hb hml hown hU hN hZ (s_X2_readS_k2 l (dC, dI) cI cL cZ cR cG cH Z kd L f_13 hG o0 mo0 ko0 (fun d9 h9 => by rw [hfo_23] at h9; obtain rfl := Option.some.inj h9; exact hT0)) wd_376 wd_377 wd_378 wd_33 wd_379 (by decide +kernel) ⟨Nat.le_of_ble_eq_true rfl, Nat.le_of_ble_eq_true rfl⟩ hK hP hD hS mo0 hfo_23 2 rfl rfl rfl hl.1 rfl (Nat.le_of_ble_eq_true rfl) dX2_readPair_11 ⟨Nat.le_of_ble_eq_true rfl, Nat.le_of_ble_eq_true rfl⟩ (fun x_36 f_37 H locs hw hP hD hS => ?_)
  obtain ⟨hG, bx_36, hkc_38, hfc_39, hfc_40, hfc_41, hrc_42, hrc_43, hpost_44, hxp_45, hTc_46⟩ := hw
  have hfo_48 : f_37 a_5 = .inl (cI, 600, .inl g_35) := by rw [hkc_38 a_5 (by rw [ka_5]; decide)]; exact hfo_34
  have hfr0 : ∀ b, kd b ≠ 2 → kd b ≠ 207 → kd b ≠ 568 → kd b ≠ 569 → kd b ≠ 570 → kd b ≠ 571 → kd b ≠ 572 → f_37 b = f b := fun b q2 q207 q568 q569 q570 q571 q572 => (hkc_38 b q2).trans (hfr0 b q2 q207 q568 q569 q570 q571 q572)
  have hfr2_4 : ∀ b, kd b = 2 → fldI (f_37 b) 4 = fldI (f b) 4 := fun b kb => (hfc_39 b kb).trans (hfr2_4 b kb)
  have hfr207_1 : ∀ b, kd b = 207 → fldI (f_37 b) 1 = fldI (f b) 1 := fun b kb => (congrArg (fun x => fldI x 1) (hkc_38 b (by rw [kb]; decide))).trans (hfr207_1 b kb)
  have hfr207_12 : ∀ b, kd b = 207 → fldI (f_37 b) 12 = fldI (f b) 12 := fun b kb => (congrArg (fun x => fldI x 12) (hkc_38 b (by rw [kb]; decide))).trans (hfr207_12 b kb)
  have hrr2_0 : ∀ b, kd b = 2 → fldR (f_37 b) 0 = fldR (f b) 0 := fun b kb => (hrc_42 b kb).trans (hrr2_0 b kb)
  have hrr2_3 : ∀ b, kd b = 2 → fldR (f_37 b) 3 = fldR (f b) 3 := fun b kb => (hrc_43 b kb).trans (hrr2_3 b kb)
  have hrr207_0 : ∀ b, kd b = 207 → fldR (f_37 b) 0 = fldR (f b) 0 := fun b kb => (congrArg (fun x => fldR x 0) (hkc_38 b (by rw [kb]; decide))).trans (hrr207_0 b kb)
  have hrr207_3 : ∀ b, kd b = 207 → fldR (f_37 b) 3 = fldR (f b) 3 := fun b kb => (congrArg (fun x => fldR x 3) (hkc_38 b (by rw [kb]; decide))).trans (hrr207_3 b kb)
  have hrr207_11 : ∀ b, kd b = 207 → fldR (f_37 b) 11 = fldR (f b) 11 := fun b kb => (congrArg (fun x => fldR x 11) (hkc_38 b (by rw [kb]; decide))).trans (hrr207_11 b kb)
  have hT0 : trel kd 207 566 568 573 204 f_37 a_2 := hT0.keep (fun b q => hkc_38 b (by rw [q]; decide)) (fun b q => hkc_38 b (by rw [q]; decide)) (fun b q => hkc_38 b (by rw [q]; decide)) (fun b q => hkc_38 b (by rw [q]; decide)) (fun b q => congrArg (fun x => fldI x 1) (hkc_38 b (by rw [q]; decide)))
  obtain ⟨a_50, v_51, v_52, a_53, v_54, v_55, v_56, v_57, v_58, v_59, hfo_49, ⟨ma_50, ka_50⟩, ⟨ma_53, ka_53⟩, bv_54, bv_55, bv_56, bv_57, bv_58⟩ := un_2 (hG _ mo0) ko0
  have bv_51 : ((-2147483648) ≤ v_51.toInt ∧ v_51.toInt ≤ 2147483647) := ⟨i32_lo _, i32_hi _⟩
  have bv_52 : ((-2147483648) ≤ v_52.toInt ∧ v_52.toInt ≤ 2147483647) := ⟨i32_lo _, i32_hi _⟩
  have bv_59 : ((-2147483648) ≤ v_59.toInt ∧ v_59.toInt ≤ 2147483647) := ⟨i32_lo _, i32_hi _⟩
  obtain rfl : a_2 = a_50 := by have hk9 := hrr2_0 o0 ko0; rw [hfo_49, hfo_1] at hk9; exact (Option.some.inj hk9).symm
  obtain rfl : a_5 = a_53 := by have hk9 := hrr2_3 o0 ko0; rw [hfo_49, hfo_1] at hk9; exact (Option.some.inj hk9).symm
  obtain rfl : v_6 = v_54 := by have hk9 := hfc_39 o0 ko0; rw [hfo_49, hfo_23] at hk9; exact (Option.some.inj hk9).symm
  obtain rfl : v_9 = v_57 := by have hk9 := hfc_40 o0 ko0; rw [hfo_49, hfo_23] at hk9; exact (Option.some.inj hk9).symm
  obtain rfl : v_10 = v_58 := by have hk9 := hfc_41 o0 ko0; rw [hfo_49, hfo_23] at hk9; exact (Option.some.inj hk9).symm
  have hqhpost_44 := hpost_44 v_29 v_55 (by rw [hfo_23]; rfl) (by rw [hfo_49]; rfl)
  have hT_60 := hTc_46 a_2 (by rw [hfo_49]; rfl)
  obtain ⟨a_62, v_63, a_64, a_65, a_66, a_67, v_68, a_69, a_70, a_71, a_72, a_73, v_74, a_75, a_76, a_77, hfo_61, ⟨ma_62, ka_62⟩, bv_63, ⟨ma_64, ka_64⟩, ⟨ma_65, ka_65⟩, ⟨ma_66, ka_66⟩, ⟨ma_67, ka_67⟩, bv_68, ⟨ma_69, ka_69⟩, ⟨ma_70, ka_70⟩, ⟨ma_71, ka_71⟩, ⟨ma_72, ka_72⟩, ⟨ma_73, ka_73⟩, bv_74, ⟨ma_75, ka_75⟩, ⟨ma_76, ka_76⟩, ⟨ma_77, ka_77⟩⟩ := un_207 (hG _ ma_2) ka_2
  have hrsx_36 := hxp_45 a_2 v_63 v_56 (by rw [hfo_49]; rfl) (by rw [hfo_61]; rfl) (by rw [hfo_49]; rfl)
  refine lv_if_ne (tgt := 19) hx hb dX2_readPair_14 (by decide) (fun c_78 => ?_) (fun c_78 => ?_)
  · skip
    rw [← Int32.toInt_inj, ti_0] at c_78
    refine lv_aload_n hx hb dX2_readPair_19 rfl (lv_at hl 1 rfl) ?_
    refine lv_aload_n hx hb dX2_readPair_20 rfl (lv_at hl 1 rfl) ?_
    refine tk_getP (D := (dC, dI)) (ci := 2) (v := .int v_56) (C := RX2) (T := TX2) (N := 10) hx hb hU inlX2 hown hK hP mo0 hfo_49 rfl 6 (by decide) (hU _ wd_373) (fun _ h9 => h9) rfl dX2_readPair_21 ?_
    refine tk_putP (D := (dC, dI)) (ci := 2) (v := .int v_56) (ty := .int) (C := RX2) (T := TX2) (N := 10) hx hb hU inlX2 tyX2 tyX2_ok nmX2 hown hK hP hD hS mo0 hfo_49 rfl 7 (by decide) (hU _ wd_374) (fun _ h9 => h9) rfl (by decide +kernel) rfl rfl (Nat.le_of_ble_eq_true rfl) dX2_readPair_24 (fun H locs hP hD hS => ?_)
    obtain ⟨f_80, ef_80⟩ : ∃ y : Nat → va_E, y = va_up f_37 o0 (.inr (2, [.ref a_2, .int v_51, .int v_52, .ref a_5, .int v_6, .int v_55, .int v_56, .int v_56, .int v_10, .int v_59])) := ⟨_, rfl⟩
    have hP : va_P (dC, dI) vwCl (va_pl L f_80) H := by rw [ef_80]; exact hP
    have hD : va_D (fun q => q ∈ L) (va_pl L f_80) := by rw [ef_80]; exact hD
    have hG : GI (okc cI cL cZ cR cG cH L kd) kd L f_80 := by rw [ef_80]; exact hG.set o0 (mk_2 ko0 ⟨a_2, v_51, v_52, a_5, v_6, v_55, v_56, v_56, v_10, v_59, rfl, ⟨ma_2, ka_2⟩, ⟨ma_5, ka_5⟩, (by constructor <;> omega), (by constructor <;> omega), (by constructor <;> omega), (by constructor <;> omega), (by constructor <;> omega)⟩)
    have hfo_81 : f_80 a_5 = .inl (cI, 600, .inl g_35) := by rw [ef_80, up_ne (kd_ne ko0 ka_5 (by decide))]; exact hfo_48
    have hfo_82 : f_80 a_2 = .inr (7, [.ref a_62, .int v_63, .ref a_64, .ref a_65, .ref a_66, .ref a_67, .int v_68, .ref a_69, .ref a_70, .ref a_71, .ref a_72, .ref a_73, .int v_74, .ref a_75, .ref a_76, .ref a_77]) := by rw [ef_80, up_ne (kd_ne ko0 ka_2 (by decide))]; exact hfo_61
    have hfr0 : ∀ b, kd b ≠ 2 → kd b ≠ 207 → kd b ≠ 568 → kd b ≠ 569 → kd b ≠ 570 → kd b ≠ 571 → kd b ≠ 572 → f_80 b = f b := fun b q2 q207 q568 q569 q570 q571 q572 => (congrFun ef_80 b).trans ((up_ne (fun e9 => q2 (by rw [e9]; exact ko0))).trans (hfr0 b q2 q207 q568 q569 q570 q571 q572))
    have hfr2_4 : ∀ b, kd b = 2 → fldI (f_80 b) 4 = fldI (f b) 4 := fun b kb => ((congrArg (fun x => fldI x 4) (congrFun ef_80 b)).trans (fk_up (by rw [hfo_49]; rfl) b)).trans (hfr2_4 b kb)
    have hfr207_1 : ∀ b, kd b = 207 → fldI (f_80 b) 1 = fldI (f b) 1 := fun b kb => (congrArg (fun x => fldI x 1) ((congrFun ef_80 b).trans (up_ne (kd_ne ko0 kb (by decide))))).trans (hfr207_1 b kb)
    have hfr207_12 : ∀ b, kd b = 207 → fldI (f_80 b) 12 = fldI (f b) 12 := fun b kb => (congrArg (fun x => fldI x 12) ((congrFun ef_80 b).trans (up_ne (kd_ne ko0 kb (by decide))))).trans (hfr207_12 b kb)
    have hrr2_0 : ∀ b, kd b = 2 → fldR (f_80 b) 0 = fldR (f b) 0 := fun b kb => ((congrArg (fun x => fldR x 0) (congrFun ef_80 b)).trans (fr_up (by rw [hfo_49]; rfl) b)).trans (hrr2_0 b kb)
    have hrr2_3 : ∀ b, kd b = 2 → fldR (f_80 b) 3 = fldR (f b) 3 := fun b kb => ((congrArg (fun x => fldR x 3) (congrFun ef_80 b)).trans (fr_up (by rw [hfo_49]; rfl) b)).trans (hrr2_3 b kb)
    have hrr207_0 : ∀ b, kd b = 207 → fldR (f_80 b) 0 = fldR (f b) 0 := fun b kb => (congrArg (fun x => fldR x 0) ((congrFun ef_80 b).trans (up_ne (kd_ne ko0 kb (by decide))))).trans (hrr207_0 b kb)
    have hrr207_3 : ∀ b, kd b = 207 → fldR (f_80 b) 3 = fldR (f b) 3 := fun b kb => (congrArg (fun x => fldR x 3) ((congrFun ef_80 b).trans (up_ne (kd_ne ko0 kb (by decide))))).trans (hrr207_3 b kb)
    have hrr207_11 : ∀ b, kd b = 207 → fldR (f_80 b) 11 = fldR (f b) 11 := fun b kb => (congrArg (fun x => fldR x 11) ((congrFun ef_80 b).trans (up_ne (kd_ne ko0 kb (by decide))))).trans (hrr207_11 b kb)
    have hT_60 : trel kd 207 566 568 573 204 f_80 a_2 := by rw [ef_80]; exact hT_60.up ko0 (by decide) (by decide) (by decide) (by decide) (by decide)
    have hfo_83 : f_80 o0 = .inr (2, [.ref a_2, .int v_51, .int v_52, .ref a_5, .int v_6, .int v_55, .int v_56, .int v_56, .int v_10, .int v_59]) := by rw [ef_80]; exact up_self
    refine lv_aload_n hx hb dX2_readPair_27 rfl (lv_at hl 1 rfl) ?_
    refine lv_bipush (v := 58) hx hb dX2_readPair_28 (by decide) ?_
    refine tk_ViP (As := [.int 58]) (rest := []) (n := 1) hx hb hml hown hU hN hZ (s_X2_expect_k2 l (dC, dI) cI cL cZ cR cG cH Z kd L f_80 hG o0 mo0 ko0 58 (by decide)) wd_380 wd_381 wd_382 wd_33 wd_383 (by decide +kernel) ⟨Nat.le_of_ble_eq_true rfl, Nat.le_of_ble_eq_true rfl⟩ hK hP hD hS mo0 hfo_83 2 rfl rfl rfl hl.1 rfl (Nat.le_of_ble_eq_true rfl) dX2_readPair_30 ⟨Nat.le_of_ble_eq_true rfl, Nat.le_of_ble_eq_true rfl⟩ (fun x_84 f_85 H locs hw hP hD hS => ?_)
    obtain ⟨hG, bx_84, hkc_86, hfc_87, hfc_88, hfc_89, hrc_90, hrc_91, hpost_92⟩ := hw
    have hfo_94 : f_85 a_5 = .inl (cI, 600, .inl g_35) := by rw [hkc_86 a_5 (by rw [ka_5]; decide)]; exact hfo_81
    have hfo_95 : f_85 a_2 = .inr (7, [.ref a_62, .int v_63, .ref a_64, .ref a_65, .ref a_66, .ref a_67, .int v_68, .ref a_69, .ref a_70, .ref a_71, .ref a_72, .ref a_73, .int v_74, .ref a_75, .ref a_76, .ref a_77]) := by rw [hkc_86 a_2 (by rw [ka_2]; decide)]; exact hfo_82
    have hfr0 : ∀ b, kd b ≠ 2 → kd b ≠ 207 → kd b ≠ 568 → kd b ≠ 569 → kd b ≠ 570 → kd b ≠ 571 → kd b ≠ 572 → f_85 b = f b := fun b q2 q207 q568 q569 q570 q571 q572 => (hkc_86 b q2).trans (hfr0 b q2 q207 q568 q569 q570 q571 q572)
    have hfr2_4 : ∀ b, kd b = 2 → fldI (f_85 b) 4 = fldI (f b) 4 := fun b kb => (hfc_87 b kb).trans (hfr2_4 b kb)
    have hfr207_1 : ∀ b, kd b = 207 → fldI (f_85 b) 1 = fldI (f b) 1 := fun b kb => (congrArg (fun x => fldI x 1) (hkc_86 b (by rw [kb]; decide))).trans (hfr207_1 b kb)
    have hfr207_12 : ∀ b, kd b = 207 → fldI (f_85 b) 12 = fldI (f b) 12 := fun b kb => (congrArg (fun x => fldI x 12) (hkc_86 b (by rw [kb]; decide))).trans (hfr207_12 b kb)
    have hrr2_0 : ∀ b, kd b = 2 → fldR (f_85 b) 0 = fldR (f b) 0 := fun b kb => (hrc_90 b kb).trans (hrr2_0 b kb)
    have hrr2_3 : ∀ b, kd b = 2 → fldR (f_85 b) 3 = fldR (f b) 3 := fun b kb => (hrc_91 b kb).trans (hrr2_3 b kb)
    have hrr207_0 : ∀ b, kd b = 207 → fldR (f_85 b) 0 = fldR (f b) 0 := fun b kb => (congrArg (fun x => fldR x 0) (hkc_86 b (by rw [kb]; decide))).trans (hrr207_0 b kb)
    have hrr207_3 : ∀ b, kd b = 207 → fldR (f_85 b) 3 = fldR (f b) 3 := fun b kb => (congrArg (fun x => fldR x 3) (hkc_86 b (by rw [kb]; decide))).trans (hrr207_3 b kb)
    have hrr207_11 : ∀ b, kd b = 207 → fldR (f_85 b) 11 = fldR (f b) 11 := fun b kb => (congrArg (fun x => fldR x 11) (hkc_86 b (by rw [kb]; decide))).trans (hrr207_11 b kb)
    have hT_60 : trel kd 207 566 568 573 204 f_85 a_2 := hT_60.keep (fun b q => hkc_86 b (by rw [q]; decide)) (fun b q => hkc_86 b (by rw [q]; decide)) (fun b q => hkc_86 b (by rw [q]; decide)) (fun b q => hkc_86 b (by rw [q]; decide)) (fun b q => congrArg (fun x => fldI x 1) (hkc_86 b (by rw [q]; decide)))
    obtain ⟨a_97, v_98, v_99, a_100, v_101, v_102, v_103, v_104, v_105, v_106, hfo_96, ⟨ma_97, ka_97⟩, ⟨ma_100, ka_100⟩, bv_101, bv_102, bv_103, bv_104, bv_105⟩ := un_2 (hG _ mo0) ko0
    have bv_98 : ((-2147483648) ≤ v_98.toInt ∧ v_98.toInt ≤ 2147483647) := ⟨i32_lo _, i32_hi _⟩
    have bv_99 : ((-2147483648) ≤ v_99.toInt ∧ v_99.toInt ≤ 2147483647) := ⟨i32_lo _, i32_hi _⟩
    have bv_106 : ((-2147483648) ≤ v_106.toInt ∧ v_106.toInt ≤ 2147483647) := ⟨i32_lo _, i32_hi _⟩
    obtain rfl : a_2 = a_97 := by have hk9 := hrr2_0 o0 ko0; rw [hfo_96, hfo_1] at hk9; exact (Option.some.inj hk9).symm
    obtain rfl : a_5 = a_100 := by have hk9 := hrr2_3 o0 ko0; rw [hfo_96, hfo_1] at hk9; exact (Option.some.inj hk9).symm
    obtain rfl : v_6 = v_101 := by have hk9 := hfc_87 o0 ko0; rw [hfo_96, hfo_83] at hk9; exact (Option.some.inj hk9).symm
    obtain rfl : v_56 = v_104 := by have hk9 := hfc_88 o0 ko0; rw [hfo_96, hfo_83] at hk9; exact (Option.some.inj hk9).symm
    obtain rfl : v_10 = v_105 := by have hk9 := hfc_89 o0 ko0; rw [hfo_96, hfo_83] at hk9; exact (Option.some.inj hk9).symm
    have hqhpost_92 := hpost_92 v_55 v_102 (by rw [hfo_83]; rfl) (by rw [hfo_96]; rfl)
    try rw [ti_58] at hqhpost_92
    refine lv_if_eq (tgt := 43) hx hb dX2_readPair_33 (by decide) (fun c_107 => ?_) (fun c_107 => ?_)
    · skip
      rw [← Int32.toInt_inj, ti_0] at c_107
      refine lv_iconst (v := 0) hx hb dX2_readPair_43 (by decide) ?_
      exact W.zret (v := 0) (ty := .boolean) hx hb hr rfl (fun t ht hW => ⟨⟨0, f_85, rfl, ⟨hG, (by decide), hfr0, hfr2_4, hfr207_1, hfr207_12, hrr2_0, hrr2_3, hrr207_0, hrr207_3, hrr207_11, (by intro w5 z5 e5 d5; rw [hfo_1] at e5; rw [hfo_96] at d5; obtain rfl := Option.some.inj e5; obtain rfl := Option.some.inj d5; (try rw [ti_0]) <;> omega), (fun _ _ _ _ _ _ => Or.inl (by decide)), (fun d9 h9 => by rw [hfo_96] at h9; obtain rfl := Option.some.inj h9; exact hT_60)⟩, by rw [ht]; exact hP, va_K.moved hW.alike hK, pl_in hD⟩, hS.F ht⟩) hS.2.2 dX2_readPair_44
    · skip
      rw [← Int32.toInt_inj, ti_0] at c_107
      refine lv_aload_n hx hb dX2_readPair_36 rfl (lv_at hl 1 rfl) ?_
      refine tk_ViP (As := []) (rest := []) (n := 0) hx hb hml hown hU hN hZ (s_X2_readS_k2 l (dC, dI) cI cL cZ cR cG cH Z kd L f_85 hG o0 mo0 ko0 (fun d9 h9 => by rw [hfo_96] at h9; obtain rfl := Option.some.inj h9; exact hT_60)) wd_376 wd_377 wd_378 wd_33 wd_379 (by decide +kernel) ⟨Nat.le_of_ble_eq_true rfl, Nat.le_of_ble_eq_true rfl⟩ hK hP hD hS mo0 hfo_96 2 rfl rfl rfl hl.1 rfl (Nat.le_of_ble_eq_true rfl) dX2_readPair_37 ⟨Nat.le_of_ble_eq_true rfl, Nat.le_of_ble_eq_true rfl⟩ (fun x_108 f_109 H locs hw hP hD hS => ?_)
      obtain ⟨hG, bx_108, hkc_110, hfc_111, hfc_112, hfc_113, hrc_114, hrc_115, hpost_116, hxp_117, hTc_118⟩ := hw
      have hfo_120 : f_109 a_5 = .inl (cI, 600, .inl g_35) := by rw [hkc_110 a_5 (by rw [ka_5]; decide)]; exact hfo_94
      have hfo_121 : f_109 a_2 = .inr (7, [.ref a_62, .int v_63, .ref a_64, .ref a_65, .ref a_66, .ref a_67, .int v_68, .ref a_69, .ref a_70, .ref a_71, .ref a_72, .ref a_73, .int v_74, .ref a_75, .ref a_76, .ref a_77]) := by rw [hkc_110 a_2 (by rw [ka_2]; decide)]; exact hfo_95
      have hfr0 : ∀ b, kd b ≠ 2 → kd b ≠ 207 → kd b ≠ 568 → kd b ≠ 569 → kd b ≠ 570 → kd b ≠ 571 → kd b ≠ 572 → f_109 b = f b := fun b q2 q207 q568 q569 q570 q571 q572 => (hkc_110 b q2).trans (hfr0 b q2 q207 q568 q569 q570 q571 q572)
      have hfr2_4 : ∀ b, kd b = 2 → fldI (f_109 b) 4 = fldI (f b) 4 := fun b kb => (hfc_111 b kb).trans (hfr2_4 b kb)
      have hfr207_1 : ∀ b, kd b = 207 → fldI (f_109 b) 1 = fldI (f b) 1 := fun b kb => (congrArg (fun x => fldI x 1) (hkc_110 b (by rw [kb]; decide))).trans (hfr207_1 b kb)
      have hfr207_12 : ∀ b, kd b = 207 → fldI (f_109 b) 12 = fldI (f b) 12 := fun b kb => (congrArg (fun x => fldI x 12) (hkc_110 b (by rw [kb]; decide))).trans (hfr207_12 b kb)
      have hrr2_0 : ∀ b, kd b = 2 → fldR (f_109 b) 0 = fldR (f b) 0 := fun b kb => (hrc_114 b kb).trans (hrr2_0 b kb)
      have hrr2_3 : ∀ b, kd b = 2 → fldR (f_109 b) 3 = fldR (f b) 3 := fun b kb => (hrc_115 b kb).trans (hrr2_3 b kb)
      have hrr207_0 : ∀ b, kd b = 207 → fldR (f_109 b) 0 = fldR (f b) 0 := fun b kb => (congrArg (fun x => fldR x 0) (hkc_110 b (by rw [kb]; decide))).trans (hrr207_0 b kb)
      have hrr207_3 : ∀ b, kd b = 207 → fldR (f_109 b) 3 = fldR (f b) 3 := fun b kb => (congrArg (fun x => fldR x 3) (hkc_110 b (by rw [kb]; decide))).trans (hrr207_3 b kb)
      have hrr207_11 : ∀ b, kd b = 207 → fldR (f_109 b) 11 = fldR (f b) 11 := fun b kb => (congrArg (fun x => fldR x 11) (hkc_110 b (by rw [kb]; decide))).trans (hrr207_11 b kb)
      have hT_60 : trel kd 207 566 568 573 204 f_109 a_2 := hT_60.keep (fun b q => hkc_110 b (by rw [q]; decide)) (fun b q => hkc_110 b (by rw [q]; decide)) (fun b q => hkc_110 b (by rw [q]; decide)) (fun b q => hkc_110 b (by rw [q]; decide)) (fun b q => congrArg (fun x => fldI x 1) (hkc_110 b (by rw [q]; decide)))
      obtain ⟨a_123, v_124, v_125, a_126, v_127, v_128, v_129, v_130, v_131, v_132, hfo_122, ⟨ma_123, ka_123⟩, ⟨ma_126, ka_126⟩, bv_127, bv_128, bv_129, bv_130, bv_131⟩ := un_2 (hG _ mo0) ko0
      have bv_124 : ((-2147483648) ≤ v_124.toInt ∧ v_124.toInt ≤ 2147483647) := ⟨i32_lo _, i32_hi _⟩
      have bv_125 : ((-2147483648) ≤ v_125.toInt ∧ v_125.toInt ≤ 2147483647) := ⟨i32_lo _, i32_hi _⟩
      have bv_132 : ((-2147483648) ≤ v_132.toInt ∧ v_132.toInt ≤ 2147483647) := ⟨i32_lo _, i32_hi _⟩
      obtain rfl : a_2 = a_123 := by have hk9 := hrr2_0 o0 ko0; rw [hfo_122, hfo_1] at hk9; exact (Option.some.inj hk9).symm
      obtain rfl : a_5 = a_126 := by have hk9 := hrr2_3 o0 ko0; rw [hfo_122, hfo_1] at hk9; exact (Option.some.inj hk9).symm
      obtain rfl : v_6 = v_127 := by have hk9 := hfc_111 o0 ko0; rw [hfo_122, hfo_96] at hk9; exact (Option.some.inj hk9).symm
      obtain rfl : v_56 = v_130 := by have hk9 := hfc_112 o0 ko0; rw [hfo_122, hfo_96] at hk9; exact (Option.some.inj hk9).symm
      obtain rfl : v_10 = v_131 := by have hk9 := hfc_113 o0 ko0; rw [hfo_122, hfo_96] at hk9; exact (Option.some.inj hk9).symm
      have hqhpost_116 := hpost_116 v_102 v_128 (by rw [hfo_96]; rfl) (by rw [hfo_122]; rfl)
      have hT_133 := hTc_118 a_2 (by rw [hfo_122]; rfl)
      have hrsx_108 := hxp_117 a_2 v_63 v_129 (by rw [hfo_122]; rfl) (by rw [hfo_121]; rfl) (by rw [hfo_122]; rfl)
      refine lv_if_ne (tgt := 45) hx hb dX2_readPair_40 (by decide) (fun c_134 => ?_) (fun c_134 => ?_)
      · skip
        rw [← Int32.toInt_inj, ti_0] at c_134
        refine lv_aload_n hx hb dX2_readPair_45 rfl (lv_at hl 1 rfl) ?_
        refine lv_aload_n hx hb dX2_readPair_46 rfl (lv_at hl 1 rfl) ?_
        refine tk_getP (D := (dC, dI)) (ci := 2) (v := .int v_129) (C := RX2) (T := TX2) (N := 10) hx hb hU inlX2 hown hK hP mo0 hfo_122 rfl 6 (by decide) (hU _ wd_373) (fun _ h9 => h9) rfl dX2_readPair_47 ?_
        refine tk_putP (D := (dC, dI)) (ci := 2) (v := .int v_129) (ty := .int) (C := RX2) (T := TX2) (N := 10) hx hb hU inlX2 tyX2 tyX2_ok nmX2 hown hK hP hD hS mo0 hfo_122 rfl 8 (by decide) (hU _ wd_375) (fun _ h9 => h9) rfl (by decide +kernel) rfl rfl (Nat.le_of_ble_eq_true rfl) dX2_readPair_50 (fun H locs hP hD hS => ?_)
        obtain ⟨f_136, ef_136⟩ : ∃ y : Nat → va_E, y = va_up f_109 o0 (.inr (2, [.ref a_2, .int v_124, .int v_125, .ref a_5, .int v_6, .int v_128, .int v_129, .int v_56, .int v_129, .int v_132])) := ⟨_, rfl⟩
        have hP : va_P (dC, dI) vwCl (va_pl L f_136) H := by rw [ef_136]; exact hP
        have hD : va_D (fun q => q ∈ L) (va_pl L f_136) := by rw [ef_136]; exact hD
        have hG : GI (okc cI cL cZ cR cG cH L kd) kd L f_136 := by rw [ef_136]; exact hG.set o0 (mk_2 ko0 ⟨a_2, v_124, v_125, a_5, v_6, v_128, v_129, v_56, v_129, v_132, rfl, ⟨ma_2, ka_2⟩, ⟨ma_5, ka_5⟩, (by constructor <;> omega), (by constructor <;> omega), (by constructor <;> omega), (by constructor <;> omega), (by constructor <;> omega)⟩)
        have hfo_137 : f_136 a_5 = .inl (cI, 600, .inl g_35) := by rw [ef_136, up_ne (kd_ne ko0 ka_5 (by decide))]; exact hfo_120
        have hfo_138 : f_136 a_2 = .inr (7, [.ref a_62, .int v_63, .ref a_64, .ref a_65, .ref a_66, .ref a_67, .int v_68, .ref a_69, .ref a_70, .ref a_71, .ref a_72, .ref a_73, .int v_74, .ref a_75, .ref a_76, .ref a_77]) := by rw [ef_136, up_ne (kd_ne ko0 ka_2 (by decide))]; exact hfo_121
        have hfr0 : ∀ b, kd b ≠ 2 → kd b ≠ 207 → kd b ≠ 568 → kd b ≠ 569 → kd b ≠ 570 → kd b ≠ 571 → kd b ≠ 572 → f_136 b = f b := fun b q2 q207 q568 q569 q570 q571 q572 => (congrFun ef_136 b).trans ((up_ne (fun e9 => q2 (by rw [e9]; exact ko0))).trans (hfr0 b q2 q207 q568 q569 q570 q571 q572))
        have hfr2_4 : ∀ b, kd b = 2 → fldI (f_136 b) 4 = fldI (f b) 4 := fun b kb => ((congrArg (fun x => fldI x 4) (congrFun ef_136 b)).trans (fk_up (by rw [hfo_122]; rfl) b)).trans (hfr2_4 b kb)
        have hfr207_1 : ∀ b, kd b = 207 → fldI (f_136 b) 1 = fldI (f b) 1 := fun b kb => (congrArg (fun x => fldI x 1) ((congrFun ef_136 b).trans (up_ne (kd_ne ko0 kb (by decide))))).trans (hfr207_1 b kb)
        have hfr207_12 : ∀ b, kd b = 207 → fldI (f_136 b) 12 = fldI (f b) 12 := fun b kb => (congrArg (fun x => fldI x 12) ((congrFun ef_136 b).trans (up_ne (kd_ne ko0 kb (by decide))))).trans (hfr207_12 b kb)
        have hrr2_0 : ∀ b, kd b = 2 → fldR (f_136 b) 0 = fldR (f b) 0 := fun b kb => ((congrArg (fun x => fldR x 0) (congrFun ef_136 b)).trans (fr_up (by rw [hfo_122]; rfl) b)).trans (hrr2_0 b kb)
        have hrr2_3 : ∀ b, kd b = 2 → fldR (f_136 b) 3 = fldR (f b) 3 := fun b kb => ((congrArg (fun x => fldR x 3) (congrFun ef_136 b)).trans (fr_up (by rw [hfo_122]; rfl) b)).trans (hrr2_3 b kb)
        have hrr207_0 : ∀ b, kd b = 207 → fldR (f_136 b) 0 = fldR (f b) 0 := fun b kb => (congrArg (fun x => fldR x 0) ((congrFun ef_136 b).trans (up_ne (kd_ne ko0 kb (by decide))))).trans (hrr207_0 b kb)
        have hrr207_3 : ∀ b, kd b = 207 → fldR (f_136 b) 3 = fldR (f b) 3 := fun b kb => (congrArg (fun x => fldR x 3) ((congrFun ef_136 b).trans (up_ne (kd_ne ko0 kb (by decide))))).trans (hrr207_3 b kb)
        have hrr207_11 : ∀ b, kd b = 207 → fldR (f_136 b) 11 = fldR (f b) 11 := fun b kb => (congrArg (fun x => fldR x 11) ((congrFun ef_136 b).trans (up_ne (kd_ne ko0 kb (by decide))))).trans (hrr207_11 b kb)
        have hT_133 : trel kd 207 566 568 573 204 f_136 a_2 := by rw [ef_136]; exact hT_133.up ko0 (by decide) (by decide) (by decide) (by decide) (by decide)
        have hfo_139 : f_136 o0 = .inr (2, [.ref a_2, .int v_124, .int v_125, .ref a_5, .int v_6, .int v_128, .int v_129, .int v_56, .int v_129, .int v_132]) := by rw [ef_136]; exact up_self
        refine lv_aload_n hx hb dX2_readPair_53 rfl (lv_at hl 1 rfl) ?_
        refine tk_getP (D := (dC, dI)) (ci := 2) (v := .int v_56) (C := RX2) (T := TX2) (N := 10) hx hb hU inlX2 hown hK hP mo0 hfo_139 rfl 7 (by decide) (hU _ wd_374) (fun _ h9 => h9) rfl dX2_readPair_54 ?_
        refine lv_if_ne (tgt := 74) hx hb dX2_readPair_57 (by decide) (fun c_140 => ?_) (fun c_140 => ?_)
        · skip
          rw [← Int32.toInt_inj, ti_0] at c_140
          refine lv_aload_n hx hb dX2_readPair_74 rfl (lv_at hl 1 rfl) ?_
          refine tk_getP (D := (dC, dI)) (ci := 2) (v := .ref a_2) (C := RX2) (T := TX2) (N := 10) hx hb hU inlX2 hown hK hP mo0 hfo_139 rfl 0 (by decide) (hU _ wd_150) (fun _ h9 => h9) rfl dX2_readPair_75 ?_
          refine lv_aload_n hx hb dX2_readPair_78 rfl (lv_at hl 1 rfl) ?_
          refine tk_getP (D := (dC, dI)) (ci := 2) (v := .int v_56) (C := RX2) (T := TX2) (N := 10) hx hb hU inlX2 hown hK hP mo0 hfo_139 rfl 7 (by decide) (hU _ wd_374) (fun _ h9 => h9) rfl dX2_readPair_79 ?_
          refine lv_aload_n hx hb dX2_readPair_82 rfl (lv_at hl 1 rfl) ?_
          refine tk_getP (D := (dC, dI)) (ci := 2) (v := .int v_129) (C := RX2) (T := TX2) (N := 10) hx hb hU inlX2 hown hK hP mo0 hfo_139 rfl 8 (by decide) (hU _ wd_375) (fun _ h9 => h9) rfl dX2_readPair_83 ?_
          refine tk_ViP (As := [.int v_56, .int v_129]) (rest := []) (n := 2) hx hb hml hown hU hN hZ (s_X7_addPair_k207_t l (dC, dI) cI cL cZ cR cG cH Z kd L f_136 hG a_2 ma_2 ka_2 v_56 (by constructor <;> omega) v_129 (by constructor <;> omega) hT_133) wd_388 wd_389 wd_390 wd_28 wd_391 (by decide +kernel) ⟨Nat.le_of_ble_eq_true rfl, Nat.le_of_ble_eq_true rfl⟩ hK hP hD hS ma_2 hfo_138 7 rfl rfl rfl hl.1 rfl (Nat.le_of_ble_eq_true rfl) dX2_readPair_86 ⟨Nat.le_of_ble_eq_true rfl, Nat.le_of_ble_eq_true rfl⟩ (fun x_141 f_142 H locs hw hP hD hS => ?_)
          obtain ⟨hG, bx_141, hkc_143, hfc_144, hfc_145, hrc_146, hrc_147, hrc_148, hpost_149, hTc_150⟩ := hw
          have hfo_152 : f_142 a_5 = .inl (cI, 600, .inl g_35) := by rw [hkc_143 a_5 (by rw [ka_5]; decide) (by rw [ka_5]; decide) (by rw [ka_5]; decide) (by rw [ka_5]; decide) (by rw [ka_5]; decide) (by rw [ka_5]; decide)]; exact hfo_137
          have hfo_153 : f_142 o0 = .inr (2, [.ref a_2, .int v_124, .int v_125, .ref a_5, .int v_6, .int v_128, .int v_129, .int v_56, .int v_129, .int v_132]) := by rw [hkc_143 o0 (by rw [ko0]; decide) (by rw [ko0]; decide) (by rw [ko0]; decide) (by rw [ko0]; decide) (by rw [ko0]; decide) (by rw [ko0]; decide)]; exact hfo_139
          have hfr0 : ∀ b, kd b ≠ 2 → kd b ≠ 207 → kd b ≠ 568 → kd b ≠ 569 → kd b ≠ 570 → kd b ≠ 571 → kd b ≠ 572 → f_142 b = f b := fun b q2 q207 q568 q569 q570 q571 q572 => (hkc_143 b q207 q568 q569 q570 q571 q572).trans (hfr0 b q2 q207 q568 q569 q570 q571 q572)
          have hfr2_4 : ∀ b, kd b = 2 → fldI (f_142 b) 4 = fldI (f b) 4 := fun b kb => (congrArg (fun x => fldI x 4) (hkc_143 b (by rw [kb]; decide) (by rw [kb]; decide) (by rw [kb]; decide) (by rw [kb]; decide) (by rw [kb]; decide) (by rw [kb]; decide))).trans (hfr2_4 b kb)
          have hfr207_1 : ∀ b, kd b = 207 → fldI (f_142 b) 1 = fldI (f b) 1 := fun b kb => (hfc_144 b kb).trans (hfr207_1 b kb)
          have hfr207_12 : ∀ b, kd b = 207 → fldI (f_142 b) 12 = fldI (f b) 12 := fun b kb => (hfc_145 b kb).trans (hfr207_12 b kb)
          have hrr2_0 : ∀ b, kd b = 2 → fldR (f_142 b) 0 = fldR (f b) 0 := fun b kb => (congrArg (fun x => fldR x 0) (hkc_143 b (by rw [kb]; decide) (by rw [kb]; decide) (by rw [kb]; decide) (by rw [kb]; decide) (by rw [kb]; decide) (by rw [kb]; decide))).trans (hrr2_0 b kb)
          have hrr2_3 : ∀ b, kd b = 2 → fldR (f_142 b) 3 = fldR (f b) 3 := fun b kb => (congrArg (fun x => fldR x 3) (hkc_143 b (by rw [kb]; decide) (by rw [kb]; decide) (by rw [kb]; decide) (by rw [kb]; decide) (by rw [kb]; decide) (by rw [kb]; decide))).trans (hrr2_3 b kb)
          have hrr207_0 : ∀ b, kd b = 207 → fldR (f_142 b) 0 = fldR (f b) 0 := fun b kb => (hrc_146 b kb).trans (hrr207_0 b kb)
          have hrr207_3 : ∀ b, kd b = 207 → fldR (f_142 b) 3 = fldR (f b) 3 := fun b kb => (hrc_147 b kb).trans (hrr207_3 b kb)
          have hrr207_11 : ∀ b, kd b = 207 → fldR (f_142 b) 11 = fldR (f b) 11 := fun b kb => (hrc_148 b kb).trans (hrr207_11 b kb)
          obtain ⟨a_155, v_156, a_157, a_158, a_159, a_160, v_161, a_162, a_163, a_164, a_165, a_166, v_167, a_168, a_169, a_170, hfo_154, ⟨ma_155, ka_155⟩, bv_156, ⟨ma_157, ka_157⟩, ⟨ma_158, ka_158⟩, ⟨ma_159, ka_159⟩, ⟨ma_160, ka_160⟩, bv_161, ⟨ma_162, ka_162⟩, ⟨ma_163, ka_163⟩, ⟨ma_164, ka_164⟩, ⟨ma_165, ka_165⟩, ⟨ma_166, ka_166⟩, bv_167, ⟨ma_168, ka_168⟩, ⟨ma_169, ka_169⟩, ⟨ma_170, ka_170⟩⟩ := un_207 (hG _ ma_2) ka_2
          obtain rfl : v_63 = v_156 := by have hk9 := hfc_144 a_2 ka_2; rw [hfo_154, hfo_138] at hk9; exact (Option.some.inj hk9).symm
          obtain rfl : v_74 = v_167 := by have hk9 := hfc_145 a_2 ka_2; rw [hfo_154, hfo_138] at hk9; exact (Option.some.inj hk9).symm
          obtain rfl : a_62 = a_155 := by have hk9 := hrc_146 a_2 ka_2; rw [hfo_154, hfo_138] at hk9; exact (Option.some.inj hk9).symm
          obtain rfl : a_65 = a_158 := by have hk9 := hrc_147 a_2 ka_2; rw [hfo_154, hfo_138] at hk9; exact (Option.some.inj hk9).symm
          obtain rfl : a_73 = a_166 := by have hk9 := hrc_148 a_2 ka_2; rw [hfo_154, hfo_138] at hk9; exact (Option.some.inj hk9).symm
          have hqhpost_149 := hpost_149 v_63 v_63 (by rw [hfo_138]; rfl) (by rw [hfo_154]; rfl)
          refine lv_if_ne (tgt := 101) hx hb dX2_readPair_89 (by decide) (fun c_171 => ?_) (fun c_171 => ?_)
          · skip
            rw [← Int32.toInt_inj, ti_0] at c_171
            refine lv_iconst (v := 1) hx hb dX2_readPair_101 (by decide) ?_
            refine lv_goto (tgt := 106) hx hb dX2_readPair_102 (by decide) ?_
            exact W.zret (v := 1) (ty := .boolean) hx hb hr rfl (fun t ht hW => ⟨⟨1, f_142, rfl, ⟨hG, (by decide), hfr0, hfr2_4, hfr207_1, hfr207_12, hrr2_0, hrr2_3, hrr207_0, hrr207_3, hrr207_11, (by intro w5 z5 e5 d5; rw [hfo_1] at e5; rw [hfo_153] at d5; obtain rfl := Option.some.inj e5; obtain rfl := Option.some.inj d5; (try rw [ti_1]) <;> omega), (fun d9 n9 z9 h1 h2 h3 => Or.inr (by rw [hfo_153] at h1 h3; obtain rfl := Option.some.inj h1; obtain rfl := Option.some.inj h3; rw [hfo_154] at h2; obtain rfl := Option.some.inj h2; omega)), (fun d9 h9 => by rw [hfo_153] at h9; obtain rfl := Option.some.inj h9; exact hTc_150)⟩, by rw [ht]; exact hP, va_K.moved hW.alike hK, pl_in hD⟩, hS.F ht⟩) hS.2.2 dX2_readPair_106
          · skip
            rw [← Int32.toInt_inj, ti_0] at c_171
            refine lv_aload_n hx hb dX2_readPair_92 rfl (lv_at hl 1 rfl) ?_
            refine lv_iconst (v := 3) hx hb dX2_readPair_93 (by decide) ?_
            refine lv_iload_n hx hb dX2_readPair_94 rfl (lv_at hl 0 rfl) ?_
            refine tk_ViP (As := [.int 3, .int v_29]) (rest := []) (n := 2) hx hb hml hown hU hN hZ (s_X2_fail_k2 l (dC, dI) cI cL cZ cR cG cH Z kd L f_142 hG o0 mo0 ko0 3 v_29) wd_349 wd_350 wd_351 wd_33 wd_352 (by decide +kernel) ⟨Nat.le_of_ble_eq_true rfl, Nat.le_of_ble_eq_true rfl⟩ hK hP hD hS mo0 hfo_153 2 rfl rfl rfl hl.1 rfl (Nat.le_of_ble_eq_true rfl) dX2_readPair_95 ⟨Nat.le_of_ble_eq_true rfl, Nat.le_of_ble_eq_true rfl⟩ (fun x_172 f_173 H locs hw hP hD hS => ?_)
            obtain ⟨hG, bx_172, hkc_174, hfc_175, hfc_176, hfc_177, hfc_178, hrc_179, hrc_180⟩ := hw
            have hfo_182 : f_173 a_5 = .inl (cI, 600, .inl g_35) := by rw [hkc_174 a_5 (by rw [ka_5]; decide)]; exact hfo_152
            have hfo_183 : f_173 a_2 = .inr (7, [.ref a_62, .int v_63, .ref a_157, .ref a_65, .ref a_159, .ref a_160, .int v_161, .ref a_162, .ref a_163, .ref a_164, .ref a_165, .ref a_73, .int v_74, .ref a_168, .ref a_169, .ref a_170]) := by rw [hkc_174 a_2 (by rw [ka_2]; decide)]; exact hfo_154
            have hfr0 : ∀ b, kd b ≠ 2 → kd b ≠ 207 → kd b ≠ 568 → kd b ≠ 569 → kd b ≠ 570 → kd b ≠ 571 → kd b ≠ 572 → f_173 b = f b := fun b q2 q207 q568 q569 q570 q571 q572 => (hkc_174 b q2).trans (hfr0 b q2 q207 q568 q569 q570 q571 q572)
            have hfr2_4 : ∀ b, kd b = 2 → fldI (f_173 b) 4 = fldI (f b) 4 := fun b kb => (hfc_175 b kb).trans (hfr2_4 b kb)
            have hfr207_1 : ∀ b, kd b = 207 → fldI (f_173 b) 1 = fldI (f b) 1 := fun b kb => (congrArg (fun x => fldI x 1) (hkc_174 b (by rw [kb]; decide))).trans (hfr207_1 b kb)
            have hfr207_12 : ∀ b, kd b = 207 → fldI (f_173 b) 12 = fldI (f b) 12 := fun b kb => (congrArg (fun x => fldI x 12) (hkc_174 b (by rw [kb]; decide))).trans (hfr207_12 b kb)
            have hrr2_0 : ∀ b, kd b = 2 → fldR (f_173 b) 0 = fldR (f b) 0 := fun b kb => (hrc_179 b kb).trans (hrr2_0 b kb)
            have hrr2_3 : ∀ b, kd b = 2 → fldR (f_173 b) 3 = fldR (f b) 3 := fun b kb => (hrc_180 b kb).trans (hrr2_3 b kb)
            have hrr207_0 : ∀ b, kd b = 207 → fldR (f_173 b) 0 = fldR (f b) 0 := fun b kb => (congrArg (fun x => fldR x 0) (hkc_174 b (by rw [kb]; decide))).trans (hrr207_0 b kb)
            have hrr207_3 : ∀ b, kd b = 207 → fldR (f_173 b) 3 = fldR (f b) 3 := fun b kb => (congrArg (fun x => fldR x 3) (hkc_174 b (by rw [kb]; decide))).trans (hrr207_3 b kb)
            have hrr207_11 : ∀ b, kd b = 207 → fldR (f_173 b) 11 = fldR (f b) 11 := fun b kb => (congrArg (fun x => fldR x 11) (hkc_174 b (by rw [kb]; decide))).trans (hrr207_11 b kb)
            have hTc_150 : trel kd 207 566 568 573 204 f_173 a_2 := hTc_150.keep (fun b q => hkc_174 b (by rw [q]; decide)) (fun b q => hkc_174 b (by rw [q]; decide)) (fun b q => hkc_174 b (by rw [q]; decide)) (fun b q => hkc_174 b (by rw [q]; decide)) (fun b q => congrArg (fun x => fldI x 1) (hkc_174 b (by rw [q]; decide)))
            obtain ⟨a_185, v_186, v_187, a_188, v_189, v_190, v_191, v_192, v_193, v_194, hfo_184, ⟨ma_185, ka_185⟩, ⟨ma_188, ka_188⟩, bv_189, bv_190, bv_191, bv_192, bv_193⟩ := un_2 (hG _ mo0) ko0
            have bv_186 : ((-2147483648) ≤ v_186.toInt ∧ v_186.toInt ≤ 2147483647) := ⟨i32_lo _, i32_hi _⟩
            have bv_187 : ((-2147483648) ≤ v_187.toInt ∧ v_187.toInt ≤ 2147483647) := ⟨i32_lo _, i32_hi _⟩
            have bv_194 : ((-2147483648) ≤ v_194.toInt ∧ v_194.toInt ≤ 2147483647) := ⟨i32_lo _, i32_hi _⟩
            obtain rfl : a_2 = a_185 := by have hk9 := hrr2_0 o0 ko0; rw [hfo_184, hfo_1] at hk9; exact (Option.some.inj hk9).symm
            obtain rfl : a_5 = a_188 := by have hk9 := hrr2_3 o0 ko0; rw [hfo_184, hfo_1] at hk9; exact (Option.some.inj hk9).symm
            obtain rfl : v_6 = v_189 := by have hk9 := hfc_175 o0 ko0; rw [hfo_184, hfo_153] at hk9; exact (Option.some.inj hk9).symm
            obtain rfl : v_128 = v_190 := by have hk9 := hfc_176 o0 ko0; rw [hfo_184, hfo_153] at hk9; exact (Option.some.inj hk9).symm
            obtain rfl : v_56 = v_192 := by have hk9 := hfc_177 o0 ko0; rw [hfo_184, hfo_153] at hk9; exact (Option.some.inj hk9).symm
            obtain rfl : v_129 = v_193 := by have hk9 := hfc_178 o0 ko0; rw [hfo_184, hfo_153] at hk9; exact (Option.some.inj hk9).symm
            refine lv_if_eq (tgt := 105) hx hb dX2_readPair_98 (by decide) (fun c_195 => ?_) (fun c_195 => ?_)
            · skip
              rw [← Int32.toInt_inj, ti_0] at c_195
              refine lv_iconst (v := 0) hx hb dX2_readPair_105 (by decide) ?_
              exact W.zret (v := 0) (ty := .boolean) hx hb hr rfl (fun t ht hW => ⟨⟨0, f_173, rfl, ⟨hG, (by decide), hfr0, hfr2_4, hfr207_1, hfr207_12, hrr2_0, hrr2_3, hrr207_0, hrr207_3, hrr207_11, (by intro w5 z5 e5 d5; rw [hfo_1] at e5; rw [hfo_184] at d5; obtain rfl := Option.some.inj e5; obtain rfl := Option.some.inj d5; (try rw [ti_0]) <;> omega), (fun _ _ _ _ _ _ => Or.inl (by decide)), (fun d9 h9 => by rw [hfo_184] at h9; obtain rfl := Option.some.inj h9; exact hTc_150)⟩, by rw [ht]; exact hP, va_K.moved hW.alike hK, pl_in hD⟩, hS.F ht⟩) hS.2.2 dX2_readPair_106
            · skip
              rw [← Int32.toInt_inj, ti_0] at c_195
              exfalso
              omega
        · skip
          rw [← Int32.toInt_inj, ti_0] at c_140
          refine lv_aload_n hx hb dX2_readPair_60 rfl (lv_at hl 1 rfl) ?_
          refine tk_getP (D := (dC, dI)) (ci := 2) (v := .int v_129) (C := RX2) (T := TX2) (N := 10) hx hb hU inlX2 hown hK hP mo0 hfo_139 rfl 8 (by decide) (hU _ wd_375) (fun _ h9 => h9) rfl dX2_readPair_61 ?_
          refine lv_if_ne (tgt := 74) hx hb dX2_readPair_64 (by decide) (fun c_196 => ?_) (fun c_196 => ?_)
          · skip
            rw [← Int32.toInt_inj, ti_0] at c_196
            refine lv_aload_n hx hb dX2_readPair_74 rfl (lv_at hl 1 rfl) ?_
            refine tk_getP (D := (dC, dI)) (ci := 2) (v := .ref a_2) (C := RX2) (T := TX2) (N := 10) hx hb hU inlX2 hown hK hP mo0 hfo_139 rfl 0 (by decide) (hU _ wd_150) (fun _ h9 => h9) rfl dX2_readPair_75 ?_
            refine lv_aload_n hx hb dX2_readPair_78 rfl (lv_at hl 1 rfl) ?_
            refine tk_getP (D := (dC, dI)) (ci := 2) (v := .int v_56) (C := RX2) (T := TX2) (N := 10) hx hb hU inlX2 hown hK hP mo0 hfo_139 rfl 7 (by decide) (hU _ wd_374) (fun _ h9 => h9) rfl dX2_readPair_79 ?_
            refine lv_aload_n hx hb dX2_readPair_82 rfl (lv_at hl 1 rfl) ?_
            refine tk_getP (D := (dC, dI)) (ci := 2) (v := .int v_129) (C := RX2) (T := TX2) (N := 10) hx hb hU inlX2 hown hK hP mo0 hfo_139 rfl 8 (by decide) (hU _ wd_375) (fun _ h9 => h9) rfl dX2_readPair_83 ?_
            refine tk_ViP (As := [.int v_56, .int v_129]) (rest := []) (n := 2) hx hb hml hown hU hN hZ (s_X7_addPair_k207_t l (dC, dI) cI cL cZ cR cG cH Z kd L f_136 hG a_2 ma_2 ka_2 v_56 (by constructor <;> omega) v_129 (by constructor <;> omega) hT_133) wd_388 wd_389 wd_390 wd_28 wd_391 (by decide +kernel) ⟨Nat.le_of_ble_eq_true rfl, Nat.le_of_ble_eq_true rfl⟩ hK hP hD hS ma_2 hfo_138 7 rfl rfl rfl hl.1 rfl (Nat.le_of_ble_eq_true rfl) dX2_readPair_86 ⟨Nat.le_of_ble_eq_true rfl, Nat.le_of_ble_eq_true rfl⟩ (fun x_197 f_198 H locs hw hP hD hS => ?_)
            obtain ⟨hG, bx_197, hkc_199, hfc_200, hfc_201, hrc_202, hrc_203, hrc_204, hpost_205, hTc_206⟩ := hw
            have hfo_208 : f_198 a_5 = .inl (cI, 600, .inl g_35) := by rw [hkc_199 a_5 (by rw [ka_5]; decide) (by rw [ka_5]; decide) (by rw [ka_5]; decide) (by rw [ka_5]; decide) (by rw [ka_5]; decide) (by rw [ka_5]; decide)]; exact hfo_137
            have hfo_209 : f_198 o0 = .inr (2, [.ref a_2, .int v_124, .int v_125, .ref a_5, .int v_6, .int v_128, .int v_129, .int v_56, .int v_129, .int v_132]) := by rw [hkc_199 o0 (by rw [ko0]; decide) (by rw [ko0]; decide) (by rw [ko0]; decide) (by rw [ko0]; decide) (by rw [ko0]; decide) (by rw [ko0]; decide)]; exact hfo_139
            have hfr0 : ∀ b, kd b ≠ 2 → kd b ≠ 207 → kd b ≠ 568 → kd b ≠ 569 → kd b ≠ 570 → kd b ≠ 571 → kd b ≠ 572 → f_198 b = f b := fun b q2 q207 q568 q569 q570 q571 q572 => (hkc_199 b q207 q568 q569 q570 q571 q572).trans (hfr0 b q2 q207 q568 q569 q570 q571 q572)
            have hfr2_4 : ∀ b, kd b = 2 → fldI (f_198 b) 4 = fldI (f b) 4 := fun b kb => (congrArg (fun x => fldI x 4) (hkc_199 b (by rw [kb]; decide) (by rw [kb]; decide) (by rw [kb]; decide) (by rw [kb]; decide) (by rw [kb]; decide) (by rw [kb]; decide))).trans (hfr2_4 b kb)
            have hfr207_1 : ∀ b, kd b = 207 → fldI (f_198 b) 1 = fldI (f b) 1 := fun b kb => (hfc_200 b kb).trans (hfr207_1 b kb)
            have hfr207_12 : ∀ b, kd b = 207 → fldI (f_198 b) 12 = fldI (f b) 12 := fun b kb => (hfc_201 b kb).trans (hfr207_12 b kb)
            have hrr2_0 : ∀ b, kd b = 2 → fldR (f_198 b) 0 = fldR (f b) 0 := fun b kb => (congrArg (fun x => fldR x 0) (hkc_199 b (by rw [kb]; decide) (by rw [kb]; decide) (by rw [kb]; decide) (by rw [kb]; decide) (by rw [kb]; decide) (by rw [kb]; decide))).trans (hrr2_0 b kb)
            have hrr2_3 : ∀ b, kd b = 2 → fldR (f_198 b) 3 = fldR (f b) 3 := fun b kb => (congrArg (fun x => fldR x 3) (hkc_199 b (by rw [kb]; decide) (by rw [kb]; decide) (by rw [kb]; decide) (by rw [kb]; decide) (by rw [kb]; decide) (by rw [kb]; decide))).trans (hrr2_3 b kb)
            have hrr207_0 : ∀ b, kd b = 207 → fldR (f_198 b) 0 = fldR (f b) 0 := fun b kb => (hrc_202 b kb).trans (hrr207_0 b kb)
            have hrr207_3 : ∀ b, kd b = 207 → fldR (f_198 b) 3 = fldR (f b) 3 := fun b kb => (hrc_203 b kb).trans (hrr207_3 b kb)
            have hrr207_11 : ∀ b, kd b = 207 → fldR (f_198 b) 11 = fldR (f b) 11 := fun b kb => (hrc_204 b kb).trans (hrr207_11 b kb)
            obtain ⟨a_211, v_212, a_213, a_214, a_215, a_216, v_217, a_218, a_219, a_220, a_221, a_222, v_223, a_224, a_225, a_226, hfo_210, ⟨ma_211, ka_211⟩, bv_212, ⟨ma_213, ka_213⟩, ⟨ma_214, ka_214⟩, ⟨ma_215, ka_215⟩, ⟨ma_216, ka_216⟩, bv_217, ⟨ma_218, ka_218⟩, ⟨ma_219, ka_219⟩, ⟨ma_220, ka_220⟩, ⟨ma_221, ka_221⟩, ⟨ma_222, ka_222⟩, bv_223, ⟨ma_224, ka_224⟩, ⟨ma_225, ka_225⟩, ⟨ma_226, ka_226⟩⟩ := un_207 (hG _ ma_2) ka_2
            obtain rfl : v_63 = v_212 := by have hk9 := hfc_200 a_2 ka_2; rw [hfo_210, hfo_138] at hk9; exact (Option.some.inj hk9).symm
            obtain rfl : v_74 = v_223 := by have hk9 := hfc_201 a_2 ka_2; rw [hfo_210, hfo_138] at hk9; exact (Option.some.inj hk9).symm
            obtain rfl : a_62 = a_211 := by have hk9 := hrc_202 a_2 ka_2; rw [hfo_210, hfo_138] at hk9; exact (Option.some.inj hk9).symm
            obtain rfl : a_65 = a_214 := by have hk9 := hrc_203 a_2 ka_2; rw [hfo_210, hfo_138] at hk9; exact (Option.some.inj hk9).symm
            obtain rfl : a_73 = a_222 := by have hk9 := hrc_204 a_2 ka_2; rw [hfo_210, hfo_138] at hk9; exact (Option.some.inj hk9).symm
            have hqhpost_205 := hpost_205 v_63 v_63 (by rw [hfo_138]; rfl) (by rw [hfo_210]; rfl)
            refine lv_if_ne (tgt := 101) hx hb dX2_readPair_89 (by decide) (fun c_227 => ?_) (fun c_227 => ?_)
            · skip
              rw [← Int32.toInt_inj, ti_0] at c_227
              refine lv_iconst (v := 1) hx hb dX2_readPair_101 (by decide) ?_
              refine lv_goto (tgt := 106) hx hb dX2_readPair_102 (by decide) ?_
              exact W.zret (v := 1) (ty := .boolean) hx hb hr rfl (fun t ht hW => ⟨⟨1, f_198, rfl, ⟨hG, (by decide), hfr0, hfr2_4, hfr207_1, hfr207_12, hrr2_0, hrr2_3, hrr207_0, hrr207_3, hrr207_11, (by intro w5 z5 e5 d5; rw [hfo_1] at e5; rw [hfo_209] at d5; obtain rfl := Option.some.inj e5; obtain rfl := Option.some.inj d5; (try rw [ti_1]) <;> omega), (fun d9 n9 z9 h1 h2 h3 => Or.inr (by rw [hfo_209] at h1 h3; obtain rfl := Option.some.inj h1; obtain rfl := Option.some.inj h3; rw [hfo_210] at h2; obtain rfl := Option.some.inj h2; omega)), (fun d9 h9 => by rw [hfo_209] at h9; obtain rfl := Option.some.inj h9; exact hTc_206)⟩, by rw [ht]; exact hP, va_K.moved hW.alike hK, pl_in hD⟩, hS.F ht⟩) hS.2.2 dX2_readPair_106
            · skip
              rw [← Int32.toInt_inj, ti_0] at c_227
              refine lv_aload_n hx hb dX2_readPair_92 rfl (lv_at hl 1 rfl) ?_
              refine lv_iconst (v := 3) hx hb dX2_readPair_93 (by decide) ?_
              refine lv_iload_n hx hb dX2_readPair_94 rfl (lv_at hl 0 rfl) ?_
              refine tk_ViP (As := [.int 3, .int v_29]) (rest := []) (n := 2) hx hb hml hown hU hN hZ (s_X2_fail_k2 l (dC, dI) cI cL cZ cR cG cH Z kd L f_198 hG o0 mo0 ko0 3 v_29) wd_349 wd_350 wd_351 wd_33 wd_352 (by decide +kernel) ⟨Nat.le_of_ble_eq_true rfl, Nat.le_of_ble_eq_true rfl⟩ hK hP hD hS mo0 hfo_209 2 rfl rfl rfl hl.1 rfl (Nat.le_of_ble_eq_true rfl) dX2_readPair_95 ⟨Nat.le_of_ble_eq_true rfl, Nat.le_of_ble_eq_true rfl⟩ (fun x_228 f_229 H locs hw hP hD hS => ?_)
              obtain ⟨hG, bx_228, hkc_230, hfc_231, hfc_232, hfc_233, hfc_234, hrc_235, hrc_236⟩ := hw
              have hfo_238 : f_229 a_5 = .inl (cI, 600, .inl g_35) := by rw [hkc_230 a_5 (by rw [ka_5]; decide)]; exact hfo_208
              have hfo_239 : f_229 a_2 = .inr (7, [.ref a_62, .int v_63, .ref a_213, .ref a_65, .ref a_215, .ref a_216, .int v_217, .ref a_218, .ref a_219, .ref a_220, .ref a_221, .ref a_73, .int v_74, .ref a_224, .ref a_225, .ref a_226]) := by rw [hkc_230 a_2 (by rw [ka_2]; decide)]; exact hfo_210
              have hfr0 : ∀ b, kd b ≠ 2 → kd b ≠ 207 → kd b ≠ 568 → kd b ≠ 569 → kd b ≠ 570 → kd b ≠ 571 → kd b ≠ 572 → f_229 b = f b := fun b q2 q207 q568 q569 q570 q571 q572 => (hkc_230 b q2).trans (hfr0 b q2 q207 q568 q569 q570 q571 q572)
              have hfr2_4 : ∀ b, kd b = 2 → fldI (f_229 b) 4 = fldI (f b) 4 := fun b kb => (hfc_231 b kb).trans (hfr2_4 b kb)
              have hfr207_1 : ∀ b, kd b = 207 → fldI (f_229 b) 1 = fldI (f b) 1 := fun b kb => (congrArg (fun x => fldI x 1) (hkc_230 b (by rw [kb]; decide))).trans (hfr207_1 b kb)
              have hfr207_12 : ∀ b, kd b = 207 → fldI (f_229 b) 12 = fldI (f b) 12 := fun b kb => (congrArg (fun x => fldI x 12) (hkc_230 b (by rw [kb]; decide))).trans (hfr207_12 b kb)
              have hrr2_0 : ∀ b, kd b = 2 → fldR (f_229 b) 0 = fldR (f b) 0 := fun b kb => (hrc_235 b kb).trans (hrr2_0 b kb)
              have hrr2_3 : ∀ b, kd b = 2 → fldR (f_229 b) 3 = fldR (f b) 3 := fun b kb => (hrc_236 b kb).trans (hrr2_3 b kb)
              have hrr207_0 : ∀ b, kd b = 207 → fldR (f_229 b) 0 = fldR (f b) 0 := fun b kb => (congrArg (fun x => fldR x 0) (hkc_230 b (by rw [kb]; decide))).trans (hrr207_0 b kb)
              have hrr207_3 : ∀ b, kd b = 207 → fldR (f_229 b) 3 = fldR (f b) 3 := fun b kb => (congrArg (fun x => fldR x 3) (hkc_230 b (by rw [kb]; decide))).trans (hrr207_3 b kb)
              have hrr207_11 : ∀ b, kd b = 207 → fldR (f_229 b) 11 = fldR (f b) 11 := fun b kb => (congrArg (fun x => fldR x 11) (hkc_230 b (by rw [kb]; decide))).trans (hrr207_11 b kb)
              have hTc_206 : trel kd 207 566 568 573 204 f_229 a_2 := hTc_206.keep (fun b q => hkc_230 b (by rw [q]; decide)) (fun b q => hkc_230 b (by rw [q]; decide)) (fun b q => hkc_230 b (by rw [q]; decide)) (fun b q => hkc_230 b (by rw [q]; decide)) (fun b q => congrArg (fun x => fldI x 1) (hkc_230 b (by rw [q]; decide)))
              obtain ⟨a_241, v_242, v_243, a_244, v_245, v_246, v_247, v_248, v_249, v_250, hfo_240, ⟨ma_241, ka_241⟩, ⟨ma_244, ka_244⟩, bv_245, bv_246, bv_247, bv_248, bv_249⟩ := un_2 (hG _ mo0) ko0
              have bv_242 : ((-2147483648) ≤ v_242.toInt ∧ v_242.toInt ≤ 2147483647) := ⟨i32_lo _, i32_hi _⟩
              have bv_243 : ((-2147483648) ≤ v_243.toInt ∧ v_243.toInt ≤ 2147483647) := ⟨i32_lo _, i32_hi _⟩
              have bv_250 : ((-2147483648) ≤ v_250.toInt ∧ v_250.toInt ≤ 2147483647) := ⟨i32_lo _, i32_hi _⟩
              obtain rfl : a_2 = a_241 := by have hk9 := hrr2_0 o0 ko0; rw [hfo_240, hfo_1] at hk9; exact (Option.some.inj hk9).symm
              obtain rfl : a_5 = a_244 := by have hk9 := hrr2_3 o0 ko0; rw [hfo_240, hfo_1] at hk9; exact (Option.some.inj hk9).symm
              obtain rfl : v_6 = v_245 := by have hk9 := hfc_231 o0 ko0; rw [hfo_240, hfo_209] at hk9; exact (Option.some.inj hk9).symm
              obtain rfl : v_128 = v_246 := by have hk9 := hfc_232 o0 ko0; rw [hfo_240, hfo_209] at hk9; exact (Option.some.inj hk9).symm
              obtain rfl : v_56 = v_248 := by have hk9 := hfc_233 o0 ko0; rw [hfo_240, hfo_209] at hk9; exact (Option.some.inj hk9).symm
              obtain rfl : v_129 = v_249 := by have hk9 := hfc_234 o0 ko0; rw [hfo_240, hfo_209] at hk9; exact (Option.some.inj hk9).symm
              refine lv_if_eq (tgt := 105) hx hb dX2_readPair_98 (by decide) (fun c_251 => ?_) (fun c_251 => ?_)
              · skip
                rw [← Int32.toInt_inj, ti_0] at c_251
                refine lv_iconst (v := 0) hx hb dX2_readPair_105 (by decide) ?_
                exact W.zret (v := 0) (ty := .boolean) hx hb hr rfl (fun t ht hW => ⟨⟨0, f_229, rfl, ⟨hG, (by decide), hfr0, hfr2_4, hfr207_1, hfr207_12, hrr2_0, hrr2_3, hrr207_0, hrr207_3, hrr207_11, (by intro w5 z5 e5 d5; rw [hfo_1] at e5; rw [hfo_240] at d5; obtain rfl := Option.some.inj e5; obtain rfl := Option.some.inj d5; (try rw [ti_0]) <;> omega), (fun _ _ _ _ _ _ => Or.inl (by decide)), (fun d9 h9 => by rw [hfo_240] at h9; obtain rfl := Option.some.inj h9; exact hTc_206)⟩, by rw [ht]; exact hP, va_K.moved hW.alike hK, pl_in hD⟩, hS.F ht⟩) hS.2.2 dX2_readPair_106
              · skip
                rw [← Int32.toInt_inj, ti_0] at c_251
                exfalso
                omega
          · skip
            rw [← Int32.toInt_inj, ti_0] at c_196
            refine lv_aload_n hx hb dX2_readPair_67 rfl (lv_at hl 1 rfl) ?_
            refine lv_iconst (v := 2) hx hb dX2_readPair_68 (by decide) ?_
            refine lv_iload_n hx hb dX2_readPair_69 rfl (lv_at hl 0 rfl) ?_
            refine tk_ViP (As := [.int 2, .int v_29]) (rest := []) (n := 2) hx hb hml hown hU hN hZ (s_X2_fail_k2 l (dC, dI) cI cL cZ cR cG cH Z kd L f_136 hG o0 mo0 ko0 2 v_29) wd_349 wd_350 wd_351 wd_33 wd_352 (by decide +kernel) ⟨Nat.le_of_ble_eq_true rfl, Nat.le_of_ble_eq_true rfl⟩ hK hP hD hS mo0 hfo_139 2 rfl rfl rfl hl.1 rfl (Nat.le_of_ble_eq_true rfl) dX2_readPair_70 ⟨Nat.le_of_ble_eq_true rfl, Nat.le_of_ble_eq_true rfl⟩ (fun x_252 f_253 H locs hw hP hD hS => ?_)
            obtain ⟨hG, bx_252, hkc_254, hfc_255, hfc_256, hfc_257, hfc_258, hrc_259, hrc_260⟩ := hw
            have hfo_262 : f_253 a_5 = .inl (cI, 600, .inl g_35) := by rw [hkc_254 a_5 (by rw [ka_5]; decide)]; exact hfo_137
            have hfo_263 : f_253 a_2 = .inr (7, [.ref a_62, .int v_63, .ref a_64, .ref a_65, .ref a_66, .ref a_67, .int v_68, .ref a_69, .ref a_70, .ref a_71, .ref a_72, .ref a_73, .int v_74, .ref a_75, .ref a_76, .ref a_77]) := by rw [hkc_254 a_2 (by rw [ka_2]; decide)]; exact hfo_138
            have hfr0 : ∀ b, kd b ≠ 2 → kd b ≠ 207 → kd b ≠ 568 → kd b ≠ 569 → kd b ≠ 570 → kd b ≠ 571 → kd b ≠ 572 → f_253 b = f b := fun b q2 q207 q568 q569 q570 q571 q572 => (hkc_254 b q2).trans (hfr0 b q2 q207 q568 q569 q570 q571 q572)
            have hfr2_4 : ∀ b, kd b = 2 → fldI (f_253 b) 4 = fldI (f b) 4 := fun b kb => (hfc_255 b kb).trans (hfr2_4 b kb)
            have hfr207_1 : ∀ b, kd b = 207 → fldI (f_253 b) 1 = fldI (f b) 1 := fun b kb => (congrArg (fun x => fldI x 1) (hkc_254 b (by rw [kb]; decide))).trans (hfr207_1 b kb)
            have hfr207_12 : ∀ b, kd b = 207 → fldI (f_253 b) 12 = fldI (f b) 12 := fun b kb => (congrArg (fun x => fldI x 12) (hkc_254 b (by rw [kb]; decide))).trans (hfr207_12 b kb)
            have hrr2_0 : ∀ b, kd b = 2 → fldR (f_253 b) 0 = fldR (f b) 0 := fun b kb => (hrc_259 b kb).trans (hrr2_0 b kb)
            have hrr2_3 : ∀ b, kd b = 2 → fldR (f_253 b) 3 = fldR (f b) 3 := fun b kb => (hrc_260 b kb).trans (hrr2_3 b kb)
            have hrr207_0 : ∀ b, kd b = 207 → fldR (f_253 b) 0 = fldR (f b) 0 := fun b kb => (congrArg (fun x => fldR x 0) (hkc_254 b (by rw [kb]; decide))).trans (hrr207_0 b kb)
            have hrr207_3 : ∀ b, kd b = 207 → fldR (f_253 b) 3 = fldR (f b) 3 := fun b kb => (congrArg (fun x => fldR x 3) (hkc_254 b (by rw [kb]; decide))).trans (hrr207_3 b kb)
            have hrr207_11 : ∀ b, kd b = 207 → fldR (f_253 b) 11 = fldR (f b) 11 := fun b kb => (congrArg (fun x => fldR x 11) (hkc_254 b (by rw [kb]; decide))).trans (hrr207_11 b kb)
            have hT_133 : trel kd 207 566 568 573 204 f_253 a_2 := hT_133.keep (fun b q => hkc_254 b (by rw [q]; decide)) (fun b q => hkc_254 b (by rw [q]; decide)) (fun b q => hkc_254 b (by rw [q]; decide)) (fun b q => hkc_254 b (by rw [q]; decide)) (fun b q => congrArg (fun x => fldI x 1) (hkc_254 b (by rw [q]; decide)))
            obtain ⟨a_265, v_266, v_267, a_268, v_269, v_270, v_271, v_272, v_273, v_274, hfo_264, ⟨ma_265, ka_265⟩, ⟨ma_268, ka_268⟩, bv_269, bv_270, bv_271, bv_272, bv_273⟩ := un_2 (hG _ mo0) ko0
            have bv_266 : ((-2147483648) ≤ v_266.toInt ∧ v_266.toInt ≤ 2147483647) := ⟨i32_lo _, i32_hi _⟩
            have bv_267 : ((-2147483648) ≤ v_267.toInt ∧ v_267.toInt ≤ 2147483647) := ⟨i32_lo _, i32_hi _⟩
            have bv_274 : ((-2147483648) ≤ v_274.toInt ∧ v_274.toInt ≤ 2147483647) := ⟨i32_lo _, i32_hi _⟩
            obtain rfl : a_2 = a_265 := by have hk9 := hrr2_0 o0 ko0; rw [hfo_264, hfo_1] at hk9; exact (Option.some.inj hk9).symm
            obtain rfl : a_5 = a_268 := by have hk9 := hrr2_3 o0 ko0; rw [hfo_264, hfo_1] at hk9; exact (Option.some.inj hk9).symm
            obtain rfl : v_6 = v_269 := by have hk9 := hfc_255 o0 ko0; rw [hfo_264, hfo_139] at hk9; exact (Option.some.inj hk9).symm
            obtain rfl : v_128 = v_270 := by have hk9 := hfc_256 o0 ko0; rw [hfo_264, hfo_139] at hk9; exact (Option.some.inj hk9).symm
            obtain rfl : v_56 = v_272 := by have hk9 := hfc_257 o0 ko0; rw [hfo_264, hfo_139] at hk9; exact (Option.some.inj hk9).symm
            obtain rfl : v_129 = v_273 := by have hk9 := hfc_258 o0 ko0; rw [hfo_264, hfo_139] at hk9; exact (Option.some.inj hk9).symm
            exact W.zret (v := x_252) (ty := .boolean) hx hb hr (zb_n (by constructor <;> omega)) (fun t ht hW => ⟨⟨x_252, f_253, rfl, ⟨hG, (by constructor <;> omega), hfr0, hfr2_4, hfr207_1, hfr207_12, hrr2_0, hrr2_3, hrr207_0, hrr207_3, hrr207_11, (by intro w5 z5 e5 d5; rw [hfo_1] at e5; rw [hfo_264] at d5; obtain rfl := Option.some.inj e5; obtain rfl := Option.some.inj d5; omega), (fun _ _ _ _ _ _ => Or.inl (by omega)), (fun d9 h9 => by rw [hfo_264] at h9; obtain rfl := Option.some.inj h9; exact hT_133)⟩, by rw [ht]; exact hP, va_K.moved hW.alike hK, pl_in hD⟩, hS.F ht⟩) hS.2.2 dX2_readPair_73
      · skip
        rw [← Int32.toInt_inj, ti_0] at c_134
        refine lv_iconst (v := 0) hx hb dX2_readPair_43 (by decide) ?_
        exact W.zret (v := 0) (ty := .boolean) hx hb hr rfl (fun t ht hW => ⟨⟨0, f_109, rfl, ⟨hG, (by decide), hfr0, hfr2_4, hfr207_1, hfr207_12, hrr2_0, hrr2_3, hrr207_0, hrr207_3, hrr207_11, (by intro w5 z5 e5 d5; rw [hfo_1] at e5; rw [hfo_122] at d5; obtain rfl := Option.some.inj e5; obtain rfl := Option.some.inj d5; (try rw [ti_0]) <;> omega), (fun _ _ _ _ _ _ => Or.inl (by decide)), (fun d9 h9 => by rw [hfo_122] at h9; obtain rfl := Option.some.inj h9; exact hT_133)⟩, by rw [ht]; exact hP, va_K.moved hW.alike hK, pl_in hD⟩, hS.F ht⟩) hS.2.2 dX2_readPair_44
  · skip
    rw [← Int32.toInt_inj, ti_0] at c_78
    refine lv_iconst (v := 0) hx hb dX2_readPair_17 (by decide) ?_
    exact W.zret (v := 0) (ty := .boolean) hx hb hr rfl (fun t ht hW => ⟨⟨0, f_37, rfl, ⟨hG, (by decide), hfr0, hfr2_4, hfr207_1, hfr207_12, hrr2_0, hrr2_3, hrr207_0, hrr207_3, hrr207_11, (by intro w5 z5 e5 d5; rw [hfo_1] at e5; rw [hfo_49] at d5; obtain rfl := Option.some.inj e5; obtain rfl := Option.some.inj d5; (try rw [ti_0]) <;> omega), (fun _ _ _ _ _ _ => Or.inl (by decide)), (fun d9 h9 => by rw [hfo_49] at h9; obtain rfl := Option.some.inj h9; exact hT_60)⟩, by rw [ht]; exact hP, va_K.moved hW.alike hK, pl_in hD⟩, hS.F ht⟩) hS.2.2 dX2_readPair_18
set_option maxHeartbeats 8000000 in
set_option maxRecDepth 100000 in
theorem s_X2_standsHere_k2 (l : Launch) (D : va_G) (cI cL cZ cR cG cH : ClassId) (Z : zT) (kd : Nat → Nat) (L : List Nat) (f : Nat → va_E) (hG : GI (okc cI cL cZ cR cG cH L kd) kd L f) (o0 : Nat) (mo0 : o0 ∈ L) (ko0 : kd o0 = 2) (i1 : Nat) (hi1 : i1 < 10) : mPI l D cI cL cZ cR cG cH Z yX2_standsHere cX2_standsHere 3 (some .boolean) 4 85 [.ref o0, .ref (Z.1 i1)] L f (fun (r : Int32) (f9 : Nat → va_E) => GI (okc cI cL cZ cR cG cH L kd) kd L f9 ∧ (0 ≤ r.toInt ∧ r.toInt ≤ 1) ∧ (∀ b, kd b ≠ 2 → f9 b = f b) ∧ (∀ b, kd b = 2 → fldI (f9 b) 4 = fldI (f b) 4) ∧ (∀ b, kd b = 2 → fldI (f9 b) 7 = fldI (f b) 7) ∧ (∀ b, kd b = 2 → fldI (f9 b) 8 = fldI (f b) 8) ∧ (∀ b, kd b = 2 → fldR (f9 b) 0 = fldR (f b) 0) ∧ (∀ b, kd b = 2 → fldR (f9 b) 3 = fldR (f b) 3) ∧ (∀ (w5 z5 : Int32), fldI (f o0) 5 = some w5 → fldI (f9 o0) 5 = some z5 → w5.toInt ≤ z5.toInt)) := by
  obtain ⟨dC, dI⟩ := D
  refine Met.ofW (cc := cX2_standsHere) (maxL := 3) (ret := (some .boolean)) (by decide) rfl ?_
  intro p e s m args below meth c s₁ B hml hv
  obtain ⟨rfl, hP, hK, hD0, hN, hZ⟩ := hv
  have hx := B.exec
  have hb := B.bytes
  have hr := B.returns
  have hU : ∀ w ∈ wsU, w.before _ s = true := fun w h => atoms_spec (ws := wU yX2_standsHere cX2_standsHere 3 (some .boolean)) B.pre w (List.mem_cons_of_mem _ h)
  have hown : s.vm.findClass RX2 = some m.cls := findClass_of_methodNamed B.named
  have hlocks := B.notSynchronized
  have hD := pl_in hD0
  have hS : va_S (fun q => q ∈ L) s.heap s.heap [] := va_S.rf
  have hl := lv_entry ([.ref o0, .ref (Z.1 i1)]) (n := 3) (Nat.le_of_ble_eq_true rfl)
  rw [lg_entry_eq]
  generalize (lg_sl ([.ref o0, .ref (Z.1 i1)]) ++ List.replicate (3 - (lg_sl ([.ref o0, .ref (Z.1 i1)])).length) Slot.unset).toArray = ls at hl ⊢
  have hl : lv_has ls 3 [(0, .ref o0), (1, .ref (Z.1 i1))] := hl
  have hfr0 : ∀ b, kd b ≠ 2 → f b = f b := fun _ _ => rfl
  have hfr2_4 : ∀ b, kd b = 2 → fldI (f b) 4 = fldI (f b) 4 := fun _ _ => rfl
  have hfr2_7 : ∀ b, kd b = 2 → fldI (f b) 7 = fldI (f b) 7 := fun _ _ => rfl
  have hfr2_8 : ∀ b, kd b = 2 → fldI (f b) 8 = fldI (f b) 8 := fun _ _ => rfl
  have hrr2_0 : ∀ b, kd b = 2 → fldR (f b) 0 = fldR (f b) 0 := fun _ _ => rfl
  have hrr2_3 : ∀ b, kd b = 2 → fldR (f b) 3 = fldR (f b) 3 := fun _ _ => rfl
  obtain ⟨a_2, v_3, v_4, a_5, v_6, v_7, v_8, v_9, v_10, v_11, hfo_1, ⟨ma_2, ka_2⟩, ⟨ma_5, ka_5⟩, bv_6, bv_7, bv_8, bv_9, bv_10⟩ := un_2 (hG _ mo0) ko0
  have bv_3 : ((-2147483648) ≤ v_3.toInt ∧ v_3.toInt ≤ 2147483647) := ⟨i32_lo _, i32_hi _⟩
  have bv_4 : ((-2147483648) ≤ v_4.toInt ∧ v_4.toInt ≤ 2147483647) := ⟨i32_lo _, i32_hi _⟩
  have bv_11 : ((-2147483648) ≤ v_11.toInt ∧ v_11.toInt ≤ 2147483647) := ⟨i32_lo _, i32_hi _⟩
  refine lv_aload_n hx hb dX2_standsHere_0 rfl (lv_at hl 0 rfl) ?_
  refine tk_getP (D := (dC, dI)) (ci := 2) (v := .int v_7) (C := RX2) (T := TX2) (N := 10) hx hb hU inlX2 hown hK hP mo0 hfo_1 rfl 5 (by decide) (hU _ wd_256) (fun _ h9 => h9) rfl dX2_standsHere_1 ?_
  refine lv_aload_n hx hb dX2_standsHere_4 rfl (lv_at hl 1 rfl) ?_
  refine tk_TiP (As := []) (rest := [.int v_7]) (n := 0) hx hb hml hown hU hN hZ (s_J0_length_8abf5 l (dC, dI) cI cL cZ cR cG cH Z kd L f hG i1 hi1) wd_291 wd_292 wd_293 wd_294 wd_295 (by decide +kernel) ⟨Nat.le_of_ble_eq_true rfl, Nat.le_of_ble_eq_true rfl⟩ hK hP hD hS hi1 rfl rfl hl.1 rfl (Nat.le_of_ble_eq_true rfl) dX2_standsHere_5 ⟨Nat.le_of_ble_eq_true rfl, Nat.le_of_ble_eq_true rfl⟩ (fun x_12 f_13 H locs hw hP hD hS => ?_)
  obtain ⟨rfl, bx_12, relx_12⟩ := hw
  refine lv_iadd hx hb dX2_standsHere_8 ?_
  refine lv_topi (fun x_15 ex_15 => ?_)
  have hx_15 : x_15.toInt = v_7.toInt + x_12.toInt := by rw [ex_15, ad_I (by omega) (by omega)]
  have bx_15 : (2 ≤ x_15.toInt ∧ x_15.toInt ≤ 607) := by constructor <;> omega
  refine lv_aload_n hx hb dX2_standsHere_9 rfl (lv_at hl 0 rfl) ?_
  refine tk_getP (D := (dC, dI)) (ci := 2) (v := .int v_6) (C := RX2) (T := TX2) (N := 10) hx hb hU inlX2 hown hK hP mo0 hfo_1 rfl 4 (by decide) (hU _ wd_251) (fun _ h9 => h9) rfl dX2_standsHere_10 ?_
  refine lv_icmp_le (tgt := 18) hx hb dX2_standsHere_13 (by decide) (fun c_16 => ?_) (fun c_16 => ?_)
  · skip
    rw [Int32.le_iff_toInt_le] at c_16
    refine lv_iconst (v := 0) hx hb dX2_standsHere_18 (by decide) ?_
    refine lv_istore_n (lv' := [(2, .int 0), (0, .ref o0), (1, .ref (Z.1 i1))]) hx hb dX2_standsHere_19 rfl hl (by decide) rfl (fun ls hl => ?_)
    have hloop_32 : ∀ (n : Nat), ∀ (y_33 : Int32), (0 ≤ y_33.toInt ∧ y_33.toInt ≤ 7) → ∀ (H : Heap) (locs : List Loc), va_P (dC, dI) vwCl (va_pl L f) H → va_S (fun q => q ∈ L) s.heap H locs → 7 - y_33.toInt < (n : Int) → ∀ (ls : Array Slot), lv_has ls 3 [(2, .int y_33), (0, .ref o0), (1, .ref (Z.1 i1))] → W p l e (headSpec (wU yX2_standsHere cX2_standsHere 3 (some .boolean)) { frames := 4, cells := 0, slots := 0, locals := 85 }).room s m [.ref o0, .ref (Z.1 i1)].toArray below meth c H locs 0 0 (MQ below (va_Qi (fun (r : Int32) (f9 : Nat → va_E) => GI (okc cI cL cZ cR cG cH L kd) kd L f9 ∧ (0 ≤ r.toInt ∧ r.toInt ≤ 1) ∧ (∀ b, kd b ≠ 2 → f9 b = f b) ∧ (∀ b, kd b = 2 → fldI (f9 b) 4 = fldI (f b) 4) ∧ (∀ b, kd b = 2 → fldI (f9 b) 7 = fldI (f b) 7) ∧ (∀ b, kd b = 2 → fldI (f9 b) 8 = fldI (f b) 8) ∧ (∀ b, kd b = 2 → fldR (f9 b) 0 = fldR (f b) 0) ∧ (∀ b, kd b = 2 → fldR (f9 b) 3 = fldR (f b) 3) ∧ (∀ (w5 z5 : Int32), fldI (f o0) 5 = some w5 → fldI (f9 o0) 5 = some z5 → w5.toInt ≤ z5.toInt)) (qP (dC, dI) cI cL cZ cR cG cH L) (fun q => q ∈ L)) [.ref o0, .ref (Z.1 i1)].toArray s 0 0 (fun q => q ∈ L)) (F0 m 20 ls []) := by
      intro n
      induction n with
      | zero => intro y_33 by_33 H locs hP hS hmuhloop_32 ls hl; exfalso; omega
      | succ n ih_hloop_32 =>
        intro y_33 by_33 H locs hP hS hmuhloop_32 ls hl
        refine lv_iload_n hx hb dX2_standsHere_20 rfl (lv_at hl 0 rfl) ?_
        refine lv_aload_n hx hb dX2_standsHere_21 rfl (lv_at hl 2 rfl) ?_
        refine tk_TiP (As := []) (rest := [.int y_33]) (n := 0) hx hb hml hown hU hN hZ (s_J0_length_8abf5 l (dC, dI) cI cL cZ cR cG cH Z kd L f hG i1 hi1) wd_291 wd_292 wd_293 wd_294 wd_295 (by decide +kernel) ⟨Nat.le_of_ble_eq_true rfl, Nat.le_of_ble_eq_true rfl⟩ hK hP hD hS hi1 rfl rfl hl.1 rfl (Nat.le_of_ble_eq_true rfl) dX2_standsHere_22 ⟨Nat.le_of_ble_eq_true rfl, Nat.le_of_ble_eq_true rfl⟩ (fun x_35 f_36 H locs hw hP hD hS => ?_)
        obtain ⟨rfl, bx_35, relx_35⟩ := hw
        refine lv_icmp_ge (tgt := 55) hx hb dX2_standsHere_25 (by decide) (fun c_38 => ?_) (fun c_38 => ?_)
        · skip
          rw [Int32.le_iff_toInt_le] at c_38
          refine lv_aload_n hx hb dX2_standsHere_55 rfl (lv_at hl 1 rfl) ?_
          refine lv_dup hx hb dX2_standsHere_56 rfl ?_
          refine tk_getP (D := (dC, dI)) (ci := 2) (v := .int v_7) (C := RX2) (T := TX2) (N := 10) hx hb hU inlX2 hown hK hP mo0 hfo_1 rfl 5 (by decide) (hU _ wd_256) (fun _ h9 => h9) rfl dX2_standsHere_57 ?_
          refine lv_aload_n hx hb dX2_standsHere_60 rfl (lv_at hl 2 rfl) ?_
          refine tk_TiP (As := []) (rest := [.int v_7, .ref o0]) (n := 0) hx hb hml hown hU hN hZ (s_J0_length_8abf5 l (dC, dI) cI cL cZ cR cG cH Z kd L f hG i1 hi1) wd_291 wd_292 wd_293 wd_294 wd_295 (by decide +kernel) ⟨Nat.le_of_ble_eq_true rfl, Nat.le_of_ble_eq_true rfl⟩ hK hP hD hS hi1 rfl rfl hl.1 rfl (Nat.le_of_ble_eq_true rfl) dX2_standsHere_61 ⟨Nat.le_of_ble_eq_true rfl, Nat.le_of_ble_eq_true rfl⟩ (fun x_39 f_40 H locs hw hP hD hS => ?_)
          obtain ⟨rfl, bx_39, relx_39⟩ := hw
          refine lv_iadd hx hb dX2_standsHere_64 ?_
          refine lv_topi (fun x_42 ex_42 => ?_)
          have hx_42 : x_42.toInt = v_7.toInt + x_39.toInt := by rw [ex_42, ad_I (by omega) (by omega)]
          have bx_42 : (2 ≤ x_42.toInt ∧ x_42.toInt ≤ 607) := by constructor <;> omega
          have hclc_43 : (0 ≤ x_42.toInt ∧ x_42.toInt ≤ 600) := by constructor <;> omega
          refine tk_putP (D := (dC, dI)) (ci := 2) (v := .int x_42) (ty := .int) (C := RX2) (T := TX2) (N := 10) hx hb hU inlX2 tyX2 tyX2_ok nmX2 hown hK hP hD hS mo0 hfo_1 rfl 5 (by decide) (hU _ wd_256) (fun _ h9 => h9) rfl (by decide +kernel) rfl rfl (Nat.le_of_ble_eq_true rfl) dX2_standsHere_65 (fun H locs hP hD hS => ?_)
          obtain ⟨f_45, ef_45⟩ : ∃ y : Nat → va_E, y = va_up f o0 (.inr (2, [.ref a_2, .int v_3, .int v_4, .ref a_5, .int v_6, .int x_42, .int v_8, .int v_9, .int v_10, .int v_11])) := ⟨_, rfl⟩
          have hP : va_P (dC, dI) vwCl (va_pl L f_45) H := by rw [ef_45]; exact hP
          have hD : va_D (fun q => q ∈ L) (va_pl L f_45) := by rw [ef_45]; exact hD
          have hG : GI (okc cI cL cZ cR cG cH L kd) kd L f_45 := by rw [ef_45]; exact hG.set o0 (mk_2 ko0 ⟨a_2, v_3, v_4, a_5, v_6, x_42, v_8, v_9, v_10, v_11, rfl, ⟨ma_2, ka_2⟩, ⟨ma_5, ka_5⟩, (by constructor <;> omega), (by constructor <;> omega), (by constructor <;> omega), (by constructor <;> omega), (by constructor <;> omega)⟩)
          have hfr0 : ∀ b, kd b ≠ 2 → f_45 b = f b := fun b q2 => (congrFun ef_45 b).trans ((up_ne (fun e9 => q2 (by rw [e9]; exact ko0))).trans (hfr0 b q2))
          have hfr2_4 : ∀ b, kd b = 2 → fldI (f_45 b) 4 = fldI (f b) 4 := fun b kb => ((congrArg (fun x => fldI x 4) (congrFun ef_45 b)).trans (fk_up (by rw [hfo_1]; rfl) b)).trans (hfr2_4 b kb)
          have hfr2_7 : ∀ b, kd b = 2 → fldI (f_45 b) 7 = fldI (f b) 7 := fun b kb => ((congrArg (fun x => fldI x 7) (congrFun ef_45 b)).trans (fk_up (by rw [hfo_1]; rfl) b)).trans (hfr2_7 b kb)
          have hfr2_8 : ∀ b, kd b = 2 → fldI (f_45 b) 8 = fldI (f b) 8 := fun b kb => ((congrArg (fun x => fldI x 8) (congrFun ef_45 b)).trans (fk_up (by rw [hfo_1]; rfl) b)).trans (hfr2_8 b kb)
          have hrr2_0 : ∀ b, kd b = 2 → fldR (f_45 b) 0 = fldR (f b) 0 := fun b kb => ((congrArg (fun x => fldR x 0) (congrFun ef_45 b)).trans (fr_up (by rw [hfo_1]; rfl) b)).trans (hrr2_0 b kb)
          have hrr2_3 : ∀ b, kd b = 2 → fldR (f_45 b) 3 = fldR (f b) 3 := fun b kb => ((congrArg (fun x => fldR x 3) (congrFun ef_45 b)).trans (fr_up (by rw [hfo_1]; rfl) b)).trans (hrr2_3 b kb)
          have hfo_46 : f_45 o0 = .inr (2, [.ref a_2, .int v_3, .int v_4, .ref a_5, .int v_6, .int x_42, .int v_8, .int v_9, .int v_10, .int v_11]) := by rw [ef_45]; exact up_self
          refine lv_iconst (v := 1) hx hb dX2_standsHere_68 (by decide) ?_
          exact W.zret (v := 1) (ty := .boolean) hx hb hr rfl (fun t ht hW => ⟨⟨1, f_45, rfl, ⟨hG, (by decide), hfr0, hfr2_4, hfr2_7, hfr2_8, hrr2_0, hrr2_3, (by intro w5 z5 e5 d5; rw [hfo_1] at e5; rw [hfo_46] at d5; obtain rfl := Option.some.inj e5; obtain rfl := Option.some.inj d5; (try rw [ti_1]) <;> omega)⟩, by rw [ht]; exact hP, va_K.moved hW.alike hK, pl_in hD⟩, hS.F ht⟩) hS.2.2 dX2_standsHere_69
        · skip
          rw [Int32.le_iff_toInt_le] at c_38
          refine lv_aload_n hx hb dX2_standsHere_28 rfl (lv_at hl 1 rfl) ?_
          refine tk_getP (D := (dC, dI)) (ci := 2) (v := .ref a_5) (C := RX2) (T := TX2) (N := 10) hx hb hU inlX2 hown hK hP mo0 hfo_1 rfl 3 (by decide) (hU _ wd_152) (fun _ h9 => h9) rfl dX2_standsHere_29 ?_
          refine lv_aload_n hx hb dX2_standsHere_32 rfl (lv_at hl 1 rfl) ?_
          refine tk_getP (D := (dC, dI)) (ci := 2) (v := .int v_7) (C := RX2) (T := TX2) (N := 10) hx hb hU inlX2 hown hK hP mo0 hfo_1 rfl 5 (by decide) (hU _ wd_256) (fun _ h9 => h9) rfl dX2_standsHere_33 ?_
          refine lv_iload_n hx hb dX2_standsHere_36 rfl (lv_at hl 0 rfl) ?_
          refine lv_iadd hx hb dX2_standsHere_37 ?_
          refine lv_topi (fun x_47 ex_47 => ?_)
          have hx_47 : x_47.toInt = v_7.toInt + y_33.toInt := by rw [ex_47, ad_I (by omega) (by omega)]
          have bx_47 : (0 ≤ x_47.toInt ∧ x_47.toInt ≤ 606) := by constructor <;> omega
          obtain ⟨g_49, hfo_48, hbg_49⟩ := un_533 (hG _ ma_5) ka_5
          refine tk_ildP hx hb hK hP 0 ma_5 hfo_48 rfl (vp_in_iff.mpr (by constructor <;> omega)) dX2_standsHere_38 ?_
          refine lv_topi (fun x_50 ex_50 => ?_)
          have bx_50 : ((-2147483648) ≤ x_50.toInt ∧ x_50.toInt ≤ 2147483647) := ⟨i32_lo _, i32_hi _⟩
          refine lv_aload_n hx hb dX2_standsHere_39 rfl (lv_at hl 2 rfl) ?_
          refine lv_iload_n hx hb dX2_standsHere_40 rfl (lv_at hl 0 rfl) ?_
          refine tk_TiP (As := [.int y_33]) (rest := [.int x_50]) (n := 1) hx hb hml hown hU hN hZ (s_J0_charAt_5068e l (dC, dI) cI cL cZ cR cG cH Z kd L f hG i1 hi1 y_33 (by constructor <;> omega) (by omega)) wd_303 wd_304 wd_305 wd_294 wd_306 (by decide +kernel) ⟨Nat.le_of_ble_eq_true rfl, Nat.le_of_ble_eq_true rfl⟩ hK hP hD hS hi1 rfl rfl hl.1 rfl (Nat.le_of_ble_eq_true rfl) dX2_standsHere_41 ⟨Nat.le_of_ble_eq_true rfl, Nat.le_of_ble_eq_true rfl⟩ (fun x_51 f_52 H locs hw hP hD hS => ?_)
          obtain ⟨rfl, bx_51⟩ := hw
          refine lv_icmp_eq (tgt := 49) hx hb dX2_standsHere_44 (by decide) (fun c_54 => ?_) (fun c_54 => ?_)
          · skip
            rw [← Int32.toInt_inj] at c_54
            obtain ⟨x_55, ex_55⟩ : ∃ y : Int32, y_33 + 1 = y := ⟨_, rfl⟩
            have hx_55 : x_55.toInt = y_33.toInt + 1 := by rw [← ex_55, ad_I (by rw [ti_1]; omega) (by rw [ti_1]; omega), ti_1]
            have bx_55 : (1 ≤ x_55.toInt ∧ x_55.toInt ≤ 7) := by constructor <;> omega
            refine lv_iinc (v := x_55) (lv' := [(2, .int x_55), (0, .ref o0), (1, .ref (Z.1 i1))]) hx hb dX2_standsHere_49 hl (k := 0) rfl ex_55 (by decide) rfl (fun ls hl => ?_)
            refine lv_goto (tgt := 20) hx hb dX2_standsHere_52 (by decide) ?_
            exact ih_hloop_32 x_55 (by constructor <;> omega) _ _ hP hS (by omega) ls (lv_sub hl [0, 1, 2] rfl)
          · skip
            rw [← Int32.toInt_inj] at c_54
            refine lv_iconst (v := 0) hx hb dX2_standsHere_47 (by decide) ?_
            exact W.zret (v := 0) (ty := .boolean) hx hb hr rfl (fun t ht hW => ⟨⟨0, f, rfl, ⟨hG, (by decide), hfr0, hfr2_4, hfr2_7, hfr2_8, hrr2_0, hrr2_3, (by intro w5 z5 e5 d5; rw [hfo_1] at e5; rw [hfo_1] at d5; obtain rfl := Option.some.inj e5; obtain rfl := Option.some.inj d5; (try rw [ti_0]) <;> omega)⟩, by rw [ht]; exact hP, va_K.moved hW.alike hK, pl_in hD⟩, hS.F ht⟩) hS.2.2 dX2_standsHere_48
    exact hloop_32 8 0 (by decide) _ _ hP hS (by (try rw [ti_0]) <;> omega) ls hl
  · skip
    rw [Int32.le_iff_toInt_le] at c_16
    refine lv_iconst (v := 0) hx hb dX2_standsHere_16 (by decide) ?_
    exact W.zret (v := 0) (ty := .boolean) hx hb hr rfl (fun t ht hW => ⟨⟨0, f, rfl, ⟨hG, (by decide), hfr0, hfr2_4, hfr2_7, hfr2_8, hrr2_0, hrr2_3, (by intro w5 z5 e5 d5; rw [hfo_1] at e5; rw [hfo_1] at d5; obtain rfl := Option.some.inj e5; obtain rfl := Option.some.inj d5; (try rw [ti_0]) <;> omega)⟩, by rw [ht]; exact hP, va_K.moved hW.alike hK, pl_in hD⟩, hS.F ht⟩) hS.2.2 dX2_standsHere_17
