set_option maxHeartbeats 8000000 in
set_option maxRecDepth 100000 in
theorem s_X11_feed_k11 (l : Launch) (D : va_G) (cI cL cZ cR cG cH : ClassId) (Z : zT) (kd : Nat → Nat) (L : List Nat) (f : Nat → va_E) (hG : GI (okc cI cL cZ cR cG cH L kd) kd L f) (o0 : Nat) (mo0 : o0 ∈ L) (ko0 : kd o0 = 11) (p1 : Int32) (p2 : Int32) (p3 : Int32) (p4 : Int32) (p5 : Int32) : mPI l D cI cL cZ cR cG cH Z yX11_feed cX11_feed 6 (some .int) 1 22 [.ref o0, .int p1, .int p2, .int p3, .int p4, .int p5] L f (fun (r : Int32) (f9 : Nat → va_E) => GI (okc cI cL cZ cR cG cH L kd) kd L f9 ∧ ((-1) ≤ r.toInt ∧ r.toInt ≤ 600) ∧ (∀ b, kd b ≠ 11 → kd b ≠ 533 → f9 b = f b) ∧ (∀ b, kd b = 11 → fldR (f9 b) 2 = fldR (f b) 2) ∧ (∀ b, kd b = 11 → fldR (f9 b) 3 = fldR (f b) 3) ∧ (∀ b, kd b = 11 → fldR (f9 b) 5 = fldR (f b) 5) ∧ (∀ b, kd b = 11 → fldR (f9 b) 6 = fldR (f b) 6) ∧ (∀ b, kd b = 11 → fldR (f9 b) 7 = fldR (f b) 7) ∧ (∀ b, kd b = 11 → fldR (f9 b) 9 = fldR (f b) 9) ∧ (∀ b, kd b = 11 → fldR (f9 b) 10 = fldR (f b) 10) ∧ (∀ b, kd b = 11 → fldR (f9 b) 16 = fldR (f b) 16)) := by
  obtain ⟨dC, dI⟩ := D
  refine Met.ofW (cc := cX11_feed) (maxL := 6) (ret := (some .int)) (by decide) rfl ?_
  intro p e s m args below meth c s₁ B hml hv
  obtain ⟨rfl, hP, hK, hD0, hN, hZ⟩ := hv
  have hx := B.exec
  have hb := B.bytes
  have hr := B.returns
  have hU : ∀ w ∈ wsU, w.before _ s = true := fun w h => atoms_spec (ws := wU yX11_feed cX11_feed 6 (some .int)) B.pre w (List.mem_cons_of_mem _ h)
  have hown : s.vm.findClass RX11 = some m.cls := findClass_of_methodNamed B.named
  have hlocks := B.notSynchronized
  have hD := pl_in hD0
  have hS : va_S (fun q => q ∈ L) s.heap s.heap [] := va_S.rf
  have hl := lv_entry ([.ref o0, .int p1, .int p2, .int p3, .int p4, .int p5]) (n := 6) (Nat.le_of_ble_eq_true rfl)
  rw [lg_entry_eq]
  generalize (lg_sl ([.ref o0, .int p1, .int p2, .int p3, .int p4, .int p5]) ++ List.replicate (6 - (lg_sl ([.ref o0, .int p1, .int p2, .int p3, .int p4, .int p5])).length) Slot.unset).toArray = ls at hl ⊢
  have hl : lv_has ls 6 [(0, .ref o0), (1, .int p1), (2, .int p2), (3, .int p3), (4, .int p4), (5, .int p5)] := hl
  have bp1 : ((-2147483648) ≤ p1.toInt ∧ p1.toInt ≤ 2147483647) := ⟨i32_lo _, i32_hi _⟩
  have bp2 : ((-2147483648) ≤ p2.toInt ∧ p2.toInt ≤ 2147483647) := ⟨i32_lo _, i32_hi _⟩
  have bp3 : ((-2147483648) ≤ p3.toInt ∧ p3.toInt ≤ 2147483647) := ⟨i32_lo _, i32_hi _⟩
  have bp4 : ((-2147483648) ≤ p4.toInt ∧ p4.toInt ≤ 2147483647) := ⟨i32_lo _, i32_hi _⟩
  have bp5 : ((-2147483648) ≤ p5.toInt ∧ p5.toInt ≤ 2147483647) := ⟨i32_lo _, i32_hi _⟩
  have hfr0 : ∀ b, kd b ≠ 11 → kd b ≠ 533 → f b = f b := fun _ _ _ => rfl
  have hrr11_2 : ∀ b, kd b = 11 → fldR (f b) 2 = fldR (f b) 2 := fun _ _ => rfl
  have hrr11_3 : ∀ b, kd b = 11 → fldR (f b) 3 = fldR (f b) 3 := fun _ _ => rfl
  have hrr11_5 : ∀ b, kd b = 11 → fldR (f b) 5 = fldR (f b) 5 := fun _ _ => rfl
  have hrr11_6 : ∀ b, kd b = 11 → fldR (f b) 6 = fldR (f b) 6 := fun _ _ => rfl
  have hrr11_7 : ∀ b, kd b = 11 → fldR (f b) 7 = fldR (f b) 7 := fun _ _ => rfl
  have hrr11_9 : ∀ b, kd b = 11 → fldR (f b) 9 = fldR (f b) 9 := fun _ _ => rfl
  have hrr11_10 : ∀ b, kd b = 11 → fldR (f b) 10 = fldR (f b) 10 := fun _ _ => rfl
  have hrr11_16 : ∀ b, kd b = 11 → fldR (f b) 16 = fldR (f b) 16 := fun _ _ => rfl
  refine lv_aload_n hx hb dX11_feed_0 rfl (lv_at hl 0 rfl) ?_
  obtain ⟨a_2, v_3, a_4, a_5, a_6, a_7, a_8, a_9, v_10, a_11, a_12, a_13, v_14, v_15, a_16, v_17, a_18, a_19, v_20, hfo_1, ⟨ma_2, ka_2⟩, bv_3, ⟨ma_4, ka_4⟩, ⟨ma_5, ka_5⟩, ⟨ma_6, ka_6⟩, ⟨ma_7, ka_7⟩, ⟨ma_8, ka_8⟩, ⟨ma_9, ka_9⟩, bv_10, ⟨ma_11, ka_11⟩, ⟨ma_12, ka_12⟩, ⟨ma_13, ka_13⟩, bv_14, ⟨ma_16, ka_16⟩, bv_17, ⟨ma_18, ka_18⟩, ⟨ma_19, ka_19⟩⟩ := un_11 (hG _ mo0) ko0
  have bv_15 : ((-2147483648) ≤ v_15.toInt ∧ v_15.toInt ≤ 2147483647) := ⟨i32_lo _, i32_hi _⟩
  have bv_20 : ((-2147483648) ≤ v_20.toInt ∧ v_20.toInt ≤ 2147483647) := ⟨i32_lo _, i32_hi _⟩
  refine tk_getP (D := (dC, dI)) (ci := 11) (v := .int v_3) (C := RX11) (T := TX11) (N := 19) hx hb hU inlX11 hown hK hP mo0 hfo_1 rfl 1 (by decide) (hU _ wd_209) (fun _ h9 => h9) rfl dX11_feed_1 ?_
  refine lv_bipush (v := 20) hx hb dX11_feed_4 (by decide) ?_
  refine lv_iadd hx hb dX11_feed_6 ?_
  refine lv_topi (fun x_21 ex_21 => ?_)
  have hx_21 : x_21.toInt = v_3.toInt + 20 := by rw [ex_21, ad_I (by rw [ti_20]; omega) (by rw [ti_20]; omega), ti_20]
  have bx_21 : (20 ≤ x_21.toInt ∧ x_21.toInt ≤ 620) := by constructor <;> omega
  refine lv_sipush (v := 600) hx hb dX11_feed_7 (by decide) ?_
  refine lv_icmp_le (tgt := 15) hx hb dX11_feed_10 (by decide) (fun c_22 => ?_) (fun c_22 => ?_)
  · skip
    rw [Int32.le_iff_toInt_le, ti_600] at c_22
    refine lv_aload_n hx hb dX11_feed_15 rfl (lv_at hl 0 rfl) ?_
    refine lv_iload_n hx hb dX11_feed_16 rfl (lv_at hl 1 rfl) ?_
    refine tk_VvP (As := [.int p1]) (rest := []) (n := 1) hx hb hml hown hU hN hZ (s_X11_putNumber_k11 l (dC, dI) cI cL cZ cR cG cH Z kd L f hG o0 mo0 ko0 p1 (by intro w1 e1; rw [hfo_1] at e1; obtain rfl := Option.some.inj e1; omega)) wd_210 wd_211 wd_212 wd_2 wd_213 (by decide +kernel) ⟨Nat.le_of_ble_eq_true rfl, Nat.le_of_ble_eq_true rfl⟩ hK hP hD hS mo0 hfo_1 11 rfl rfl rfl hl.1 rfl (Nat.le_of_ble_eq_true rfl) dX11_feed_17 ⟨Nat.le_of_ble_eq_true rfl, Nat.le_of_ble_eq_true rfl⟩ (fun f_24 H locs hw hP hD hS => ?_)
    obtain ⟨hG, hkc_25, hrc_26, hrc_27, hrc_28, hrc_29, hrc_30, hrc_31, hrc_32, hrc_33, hpost_34⟩ := hw
    have hfr0 : ∀ b, kd b ≠ 11 → kd b ≠ 533 → f_24 b = f b := fun b q11 q533 => (hkc_25 b q11 q533).trans (hfr0 b q11 q533)
    have hrr11_2 : ∀ b, kd b = 11 → fldR (f_24 b) 2 = fldR (f b) 2 := fun b kb => (hrc_26 b kb).trans (hrr11_2 b kb)
    have hrr11_3 : ∀ b, kd b = 11 → fldR (f_24 b) 3 = fldR (f b) 3 := fun b kb => (hrc_27 b kb).trans (hrr11_3 b kb)
    have hrr11_5 : ∀ b, kd b = 11 → fldR (f_24 b) 5 = fldR (f b) 5 := fun b kb => (hrc_28 b kb).trans (hrr11_5 b kb)
    have hrr11_6 : ∀ b, kd b = 11 → fldR (f_24 b) 6 = fldR (f b) 6 := fun b kb => (hrc_29 b kb).trans (hrr11_6 b kb)
    have hrr11_7 : ∀ b, kd b = 11 → fldR (f_24 b) 7 = fldR (f b) 7 := fun b kb => (hrc_30 b kb).trans (hrr11_7 b kb)
    have hrr11_9 : ∀ b, kd b = 11 → fldR (f_24 b) 9 = fldR (f b) 9 := fun b kb => (hrc_31 b kb).trans (hrr11_9 b kb)
    have hrr11_10 : ∀ b, kd b = 11 → fldR (f_24 b) 10 = fldR (f b) 10 := fun b kb => (hrc_32 b kb).trans (hrr11_10 b kb)
    have hrr11_16 : ∀ b, kd b = 11 → fldR (f_24 b) 16 = fldR (f b) 16 := fun b kb => (hrc_33 b kb).trans (hrr11_16 b kb)
    obtain ⟨a_37, v_38, a_39, a_40, a_41, a_42, a_43, a_44, v_45, a_46, a_47, a_48, v_49, v_50, a_51, v_52, a_53, a_54, v_55, hfo_36, ⟨ma_37, ka_37⟩, bv_38, ⟨ma_39, ka_39⟩, ⟨ma_40, ka_40⟩, ⟨ma_41, ka_41⟩, ⟨ma_42, ka_42⟩, ⟨ma_43, ka_43⟩, ⟨ma_44, ka_44⟩, bv_45, ⟨ma_46, ka_46⟩, ⟨ma_47, ka_47⟩, ⟨ma_48, ka_48⟩, bv_49, ⟨ma_51, ka_51⟩, bv_52, ⟨ma_53, ka_53⟩, ⟨ma_54, ka_54⟩⟩ := un_11 (hG _ mo0) ko0
    have bv_50 : ((-2147483648) ≤ v_50.toInt ∧ v_50.toInt ≤ 2147483647) := ⟨i32_lo _, i32_hi _⟩
    have bv_55 : ((-2147483648) ≤ v_55.toInt ∧ v_55.toInt ≤ 2147483647) := ⟨i32_lo _, i32_hi _⟩
    obtain rfl : a_4 = a_39 := by have hk9 := hrr11_2 o0 ko0; rw [hfo_36, hfo_1] at hk9; exact (Option.some.inj hk9).symm
    obtain rfl : a_5 = a_40 := by have hk9 := hrr11_3 o0 ko0; rw [hfo_36, hfo_1] at hk9; exact (Option.some.inj hk9).symm
    obtain rfl : a_7 = a_42 := by have hk9 := hrr11_5 o0 ko0; rw [hfo_36, hfo_1] at hk9; exact (Option.some.inj hk9).symm
    obtain rfl : a_8 = a_43 := by have hk9 := hrr11_6 o0 ko0; rw [hfo_36, hfo_1] at hk9; exact (Option.some.inj hk9).symm
    obtain rfl : a_9 = a_44 := by have hk9 := hrr11_7 o0 ko0; rw [hfo_36, hfo_1] at hk9; exact (Option.some.inj hk9).symm
    obtain rfl : a_11 = a_46 := by have hk9 := hrr11_9 o0 ko0; rw [hfo_36, hfo_1] at hk9; exact (Option.some.inj hk9).symm
    obtain rfl : a_12 = a_47 := by have hk9 := hrr11_10 o0 ko0; rw [hfo_36, hfo_1] at hk9; exact (Option.some.inj hk9).symm
    obtain rfl : a_18 = a_53 := by have hk9 := hrr11_16 o0 ko0; rw [hfo_36, hfo_1] at hk9; exact (Option.some.inj hk9).symm
    have hqhpost_34 := hpost_34 v_3 v_38 (by rw [hfo_1]; rfl) (by rw [hfo_36]; rfl)
    refine lv_aload_n hx hb dX11_feed_20 rfl (lv_at hl 0 rfl) ?_
    refine lv_iload_n hx hb dX11_feed_21 rfl (lv_at hl 2 rfl) ?_
    refine tk_VvP (As := [.int p2]) (rest := []) (n := 1) hx hb hml hown hU hN hZ (s_X11_putNumber_k11 l (dC, dI) cI cL cZ cR cG cH Z kd L f_24 hG o0 mo0 ko0 p2 (by intro w1 e1; rw [hfo_36] at e1; obtain rfl := Option.some.inj e1; omega)) wd_210 wd_211 wd_212 wd_2 wd_213 (by decide +kernel) ⟨Nat.le_of_ble_eq_true rfl, Nat.le_of_ble_eq_true rfl⟩ hK hP hD hS mo0 hfo_36 11 rfl rfl rfl hl.1 rfl (Nat.le_of_ble_eq_true rfl) dX11_feed_22 ⟨Nat.le_of_ble_eq_true rfl, Nat.le_of_ble_eq_true rfl⟩ (fun f_57 H locs hw hP hD hS => ?_)
    obtain ⟨hG, hkc_58, hrc_59, hrc_60, hrc_61, hrc_62, hrc_63, hrc_64, hrc_65, hrc_66, hpost_67⟩ := hw
    have hfr0 : ∀ b, kd b ≠ 11 → kd b ≠ 533 → f_57 b = f b := fun b q11 q533 => (hkc_58 b q11 q533).trans (hfr0 b q11 q533)
    have hrr11_2 : ∀ b, kd b = 11 → fldR (f_57 b) 2 = fldR (f b) 2 := fun b kb => (hrc_59 b kb).trans (hrr11_2 b kb)
    have hrr11_3 : ∀ b, kd b = 11 → fldR (f_57 b) 3 = fldR (f b) 3 := fun b kb => (hrc_60 b kb).trans (hrr11_3 b kb)
    have hrr11_5 : ∀ b, kd b = 11 → fldR (f_57 b) 5 = fldR (f b) 5 := fun b kb => (hrc_61 b kb).trans (hrr11_5 b kb)
    have hrr11_6 : ∀ b, kd b = 11 → fldR (f_57 b) 6 = fldR (f b) 6 := fun b kb => (hrc_62 b kb).trans (hrr11_6 b kb)
    have hrr11_7 : ∀ b, kd b = 11 → fldR (f_57 b) 7 = fldR (f b) 7 := fun b kb => (hrc_63 b kb).trans (hrr11_7 b kb)
    have hrr11_9 : ∀ b, kd b = 11 → fldR (f_57 b) 9 = fldR (f b) 9 := fun b kb => (hrc_64 b kb).trans (hrr11_9 b kb)
    have hrr11_10 : ∀ b, kd b = 11 → fldR (f_57 b) 10 = fldR (f b) 10 := fun b kb => (hrc_65 b kb).trans (hrr11_10 b kb)
    have hrr11_16 : ∀ b, kd b = 11 → fldR (f_57 b) 16 = fldR (f b) 16 := fun b kb => (hrc_66 b kb).trans (hrr11_16 b kb)
    obtain ⟨a_70, v_71, a_72, a_73, a_74, a_75, a_76, a_77, v_78, a_79, a_80, a_81, v_82, v_83, a_84, v_85, a_86, a_87, v_88, hfo_69, ⟨ma_70, ka_70⟩, bv_71, ⟨ma_72, ka_72⟩, ⟨ma_73, ka_73⟩, ⟨ma_74, ka_74⟩, ⟨ma_75, ka_75⟩, ⟨ma_76, ka_76⟩, ⟨ma_77, ka_77⟩, bv_78, ⟨ma_79, ka_79⟩, ⟨ma_80, ka_80⟩, ⟨ma_81, ka_81⟩, bv_82, ⟨ma_84, ka_84⟩, bv_85, ⟨ma_86, ka_86⟩, ⟨ma_87, ka_87⟩⟩ := un_11 (hG _ mo0) ko0
    have bv_83 : ((-2147483648) ≤ v_83.toInt ∧ v_83.toInt ≤ 2147483647) := ⟨i32_lo _, i32_hi _⟩
    have bv_88 : ((-2147483648) ≤ v_88.toInt ∧ v_88.toInt ≤ 2147483647) := ⟨i32_lo _, i32_hi _⟩
    obtain rfl : a_4 = a_72 := by have hk9 := hrr11_2 o0 ko0; rw [hfo_69, hfo_1] at hk9; exact (Option.some.inj hk9).symm
    obtain rfl : a_5 = a_73 := by have hk9 := hrr11_3 o0 ko0; rw [hfo_69, hfo_1] at hk9; exact (Option.some.inj hk9).symm
    obtain rfl : a_7 = a_75 := by have hk9 := hrr11_5 o0 ko0; rw [hfo_69, hfo_1] at hk9; exact (Option.some.inj hk9).symm
    obtain rfl : a_8 = a_76 := by have hk9 := hrr11_6 o0 ko0; rw [hfo_69, hfo_1] at hk9; exact (Option.some.inj hk9).symm
    obtain rfl : a_9 = a_77 := by have hk9 := hrr11_7 o0 ko0; rw [hfo_69, hfo_1] at hk9; exact (Option.some.inj hk9).symm
    obtain rfl : a_11 = a_79 := by have hk9 := hrr11_9 o0 ko0; rw [hfo_69, hfo_1] at hk9; exact (Option.some.inj hk9).symm
    obtain rfl : a_12 = a_80 := by have hk9 := hrr11_10 o0 ko0; rw [hfo_69, hfo_1] at hk9; exact (Option.some.inj hk9).symm
    obtain rfl : a_18 = a_86 := by have hk9 := hrr11_16 o0 ko0; rw [hfo_69, hfo_1] at hk9; exact (Option.some.inj hk9).symm
    have hqhpost_67 := hpost_67 v_38 v_71 (by rw [hfo_36]; rfl) (by rw [hfo_69]; rfl)
    refine lv_aload_n hx hb dX11_feed_25 rfl (lv_at hl 0 rfl) ?_
    refine lv_iload_n hx hb dX11_feed_26 rfl (lv_at hl 3 rfl) ?_
    refine tk_VvP (As := [.int p3]) (rest := []) (n := 1) hx hb hml hown hU hN hZ (s_X11_putNumber_k11 l (dC, dI) cI cL cZ cR cG cH Z kd L f_57 hG o0 mo0 ko0 p3 (by intro w1 e1; rw [hfo_69] at e1; obtain rfl := Option.some.inj e1; omega)) wd_210 wd_211 wd_212 wd_2 wd_213 (by decide +kernel) ⟨Nat.le_of_ble_eq_true rfl, Nat.le_of_ble_eq_true rfl⟩ hK hP hD hS mo0 hfo_69 11 rfl rfl rfl hl.1 rfl (Nat.le_of_ble_eq_true rfl) dX11_feed_27 ⟨Nat.le_of_ble_eq_true rfl, Nat.le_of_ble_eq_true rfl⟩ (fun f_90 H locs hw hP hD hS => ?_)
    obtain ⟨hG, hkc_91, hrc_92, hrc_93, hrc_94, hrc_95, hrc_96, hrc_97, hrc_98, hrc_99, hpost_100⟩ := hw
    have hfr0 : ∀ b, kd b ≠ 11 → kd b ≠ 533 → f_90 b = f b := fun b q11 q533 => (hkc_91 b q11 q533).trans (hfr0 b q11 q533)
    have hrr11_2 : ∀ b, kd b = 11 → fldR (f_90 b) 2 = fldR (f b) 2 := fun b kb => (hrc_92 b kb).trans (hrr11_2 b kb)
    have hrr11_3 : ∀ b, kd b = 11 → fldR (f_90 b) 3 = fldR (f b) 3 := fun b kb => (hrc_93 b kb).trans (hrr11_3 b kb)
    have hrr11_5 : ∀ b, kd b = 11 → fldR (f_90 b) 5 = fldR (f b) 5 := fun b kb => (hrc_94 b kb).trans (hrr11_5 b kb)
    have hrr11_6 : ∀ b, kd b = 11 → fldR (f_90 b) 6 = fldR (f b) 6 := fun b kb => (hrc_95 b kb).trans (hrr11_6 b kb)
    have hrr11_7 : ∀ b, kd b = 11 → fldR (f_90 b) 7 = fldR (f b) 7 := fun b kb => (hrc_96 b kb).trans (hrr11_7 b kb)
    have hrr11_9 : ∀ b, kd b = 11 → fldR (f_90 b) 9 = fldR (f b) 9 := fun b kb => (hrc_97 b kb).trans (hrr11_9 b kb)
    have hrr11_10 : ∀ b, kd b = 11 → fldR (f_90 b) 10 = fldR (f b) 10 := fun b kb => (hrc_98 b kb).trans (hrr11_10 b kb)
    have hrr11_16 : ∀ b, kd b = 11 → fldR (f_90 b) 16 = fldR (f b) 16 := fun b kb => (hrc_99 b kb).trans (hrr11_16 b kb)
    obtain ⟨a_103, v_104, a_105, a_106, a_107, a_108, a_109, a_110, v_111, a_112, a_113, a_114, v_115, v_116, a_117, v_118, a_119, a_120, v_121, hfo_102, ⟨ma_103, ka_103⟩, bv_104, ⟨ma_105, ka_105⟩, ⟨ma_106, ka_106⟩, ⟨ma_107, ka_107⟩, ⟨ma_108, ka_108⟩, ⟨ma_109, ka_109⟩, ⟨ma_110, ka_110⟩, bv_111, ⟨ma_112, ka_112⟩, ⟨ma_113, ka_113⟩, ⟨ma_114, ka_114⟩, bv_115, ⟨ma_117, ka_117⟩, bv_118, ⟨ma_119, ka_119⟩, ⟨ma_120, ka_120⟩⟩ := un_11 (hG _ mo0) ko0
    have bv_116 : ((-2147483648) ≤ v_116.toInt ∧ v_116.toInt ≤ 2147483647) := ⟨i32_lo _, i32_hi _⟩
    have bv_121 : ((-2147483648) ≤ v_121.toInt ∧ v_121.toInt ≤ 2147483647) := ⟨i32_lo _, i32_hi _⟩
    obtain rfl : a_4 = a_105 := by have hk9 := hrr11_2 o0 ko0; rw [hfo_102, hfo_1] at hk9; exact (Option.some.inj hk9).symm
    obtain rfl : a_5 = a_106 := by have hk9 := hrr11_3 o0 ko0; rw [hfo_102, hfo_1] at hk9; exact (Option.some.inj hk9).symm
    obtain rfl : a_7 = a_108 := by have hk9 := hrr11_5 o0 ko0; rw [hfo_102, hfo_1] at hk9; exact (Option.some.inj hk9).symm
    obtain rfl : a_8 = a_109 := by have hk9 := hrr11_6 o0 ko0; rw [hfo_102, hfo_1] at hk9; exact (Option.some.inj hk9).symm
    obtain rfl : a_9 = a_110 := by have hk9 := hrr11_7 o0 ko0; rw [hfo_102, hfo_1] at hk9; exact (Option.some.inj hk9).symm
    obtain rfl : a_11 = a_112 := by have hk9 := hrr11_9 o0 ko0; rw [hfo_102, hfo_1] at hk9; exact (Option.some.inj hk9).symm
    obtain rfl : a_12 = a_113 := by have hk9 := hrr11_10 o0 ko0; rw [hfo_102, hfo_1] at hk9; exact (Option.some.inj hk9).symm
    obtain rfl : a_18 = a_119 := by have hk9 := hrr11_16 o0 ko0; rw [hfo_102, hfo_1] at hk9; exact (Option.some.inj hk9).symm
    have hqhpost_100 := hpost_100 v_71 v_104 (by rw [hfo_69]; rfl) (by rw [hfo_102]; rfl)
    refine lv_aload_n hx hb dX11_feed_30 rfl (lv_at hl 0 rfl) ?_
    refine lv_iload hx hb dX11_feed_31 (lv_at hl 4 rfl) ?_
    refine tk_VvP (As := [.int p4]) (rest := []) (n := 1) hx hb hml hown hU hN hZ (s_X11_putNumber_k11 l (dC, dI) cI cL cZ cR cG cH Z kd L f_90 hG o0 mo0 ko0 p4 (by intro w1 e1; rw [hfo_102] at e1; obtain rfl := Option.some.inj e1; omega)) wd_210 wd_211 wd_212 wd_2 wd_213 (by decide +kernel) ⟨Nat.le_of_ble_eq_true rfl, Nat.le_of_ble_eq_true rfl⟩ hK hP hD hS mo0 hfo_102 11 rfl rfl rfl hl.1 rfl (Nat.le_of_ble_eq_true rfl) dX11_feed_33 ⟨Nat.le_of_ble_eq_true rfl, Nat.le_of_ble_eq_true rfl⟩ (fun f_123 H locs hw hP hD hS => ?_)
    obtain ⟨hG, hkc_124, hrc_125, hrc_126, hrc_127, hrc_128, hrc_129, hrc_130, hrc_131, hrc_132, hpost_133⟩ := hw
    have hfr0 : ∀ b, kd b ≠ 11 → kd b ≠ 533 → f_123 b = f b := fun b q11 q533 => (hkc_124 b q11 q533).trans (hfr0 b q11 q533)
    have hrr11_2 : ∀ b, kd b = 11 → fldR (f_123 b) 2 = fldR (f b) 2 := fun b kb => (hrc_125 b kb).trans (hrr11_2 b kb)
    have hrr11_3 : ∀ b, kd b = 11 → fldR (f_123 b) 3 = fldR (f b) 3 := fun b kb => (hrc_126 b kb).trans (hrr11_3 b kb)
    have hrr11_5 : ∀ b, kd b = 11 → fldR (f_123 b) 5 = fldR (f b) 5 := fun b kb => (hrc_127 b kb).trans (hrr11_5 b kb)
    have hrr11_6 : ∀ b, kd b = 11 → fldR (f_123 b) 6 = fldR (f b) 6 := fun b kb => (hrc_128 b kb).trans (hrr11_6 b kb)
    have hrr11_7 : ∀ b, kd b = 11 → fldR (f_123 b) 7 = fldR (f b) 7 := fun b kb => (hrc_129 b kb).trans (hrr11_7 b kb)
    have hrr11_9 : ∀ b, kd b = 11 → fldR (f_123 b) 9 = fldR (f b) 9 := fun b kb => (hrc_130 b kb).trans (hrr11_9 b kb)
    have hrr11_10 : ∀ b, kd b = 11 → fldR (f_123 b) 10 = fldR (f b) 10 := fun b kb => (hrc_131 b kb).trans (hrr11_10 b kb)
    have hrr11_16 : ∀ b, kd b = 11 → fldR (f_123 b) 16 = fldR (f b) 16 := fun b kb => (hrc_132 b kb).trans (hrr11_16 b kb)
    obtain ⟨a_136, v_137, a_138, a_139, a_140, a_141, a_142, a_143, v_144, a_145, a_146, a_147, v_148, v_149, a_150, v_151, a_152, a_153, v_154, hfo_135, ⟨ma_136, ka_136⟩, bv_137, ⟨ma_138, ka_138⟩, ⟨ma_139, ka_139⟩, ⟨ma_140, ka_140⟩, ⟨ma_141, ka_141⟩, ⟨ma_142, ka_142⟩, ⟨ma_143, ka_143⟩, bv_144, ⟨ma_145, ka_145⟩, ⟨ma_146, ka_146⟩, ⟨ma_147, ka_147⟩, bv_148, ⟨ma_150, ka_150⟩, bv_151, ⟨ma_152, ka_152⟩, ⟨ma_153, ka_153⟩⟩ := un_11 (hG _ mo0) ko0
    have bv_149 : ((-2147483648) ≤ v_149.toInt ∧ v_149.toInt ≤ 2147483647) := ⟨i32_lo _, i32_hi _⟩
    have bv_154 : ((-2147483648) ≤ v_154.toInt ∧ v_154.toInt ≤ 2147483647) := ⟨i32_lo _, i32_hi _⟩
    obtain rfl : a_4 = a_138 := by have hk9 := hrr11_2 o0 ko0; rw [hfo_135, hfo_1] at hk9; exact (Option.some.inj hk9).symm
    obtain rfl : a_5 = a_139 := by have hk9 := hrr11_3 o0 ko0; rw [hfo_135, hfo_1] at hk9; exact (Option.some.inj hk9).symm
    obtain rfl : a_7 = a_141 := by have hk9 := hrr11_5 o0 ko0; rw [hfo_135, hfo_1] at hk9; exact (Option.some.inj hk9).symm
    obtain rfl : a_8 = a_142 := by have hk9 := hrr11_6 o0 ko0; rw [hfo_135, hfo_1] at hk9; exact (Option.some.inj hk9).symm
    obtain rfl : a_9 = a_143 := by have hk9 := hrr11_7 o0 ko0; rw [hfo_135, hfo_1] at hk9; exact (Option.some.inj hk9).symm
    obtain rfl : a_11 = a_145 := by have hk9 := hrr11_9 o0 ko0; rw [hfo_135, hfo_1] at hk9; exact (Option.some.inj hk9).symm
    obtain rfl : a_12 = a_146 := by have hk9 := hrr11_10 o0 ko0; rw [hfo_135, hfo_1] at hk9; exact (Option.some.inj hk9).symm
    obtain rfl : a_18 = a_152 := by have hk9 := hrr11_16 o0 ko0; rw [hfo_135, hfo_1] at hk9; exact (Option.some.inj hk9).symm
    have hqhpost_133 := hpost_133 v_104 v_137 (by rw [hfo_102]; rfl) (by rw [hfo_135]; rfl)
    refine lv_aload_n hx hb dX11_feed_36 rfl (lv_at hl 0 rfl) ?_
    refine lv_iload hx hb dX11_feed_37 (lv_at hl 5 rfl) ?_
    refine tk_VvP (As := [.int p5]) (rest := []) (n := 1) hx hb hml hown hU hN hZ (s_X11_putNumber_k11 l (dC, dI) cI cL cZ cR cG cH Z kd L f_123 hG o0 mo0 ko0 p5 (by intro w1 e1; rw [hfo_135] at e1; obtain rfl := Option.some.inj e1; omega)) wd_210 wd_211 wd_212 wd_2 wd_213 (by decide +kernel) ⟨Nat.le_of_ble_eq_true rfl, Nat.le_of_ble_eq_true rfl⟩ hK hP hD hS mo0 hfo_135 11 rfl rfl rfl hl.1 rfl (Nat.le_of_ble_eq_true rfl) dX11_feed_39 ⟨Nat.le_of_ble_eq_true rfl, Nat.le_of_ble_eq_true rfl⟩ (fun f_156 H locs hw hP hD hS => ?_)
    obtain ⟨hG, hkc_157, hrc_158, hrc_159, hrc_160, hrc_161, hrc_162, hrc_163, hrc_164, hrc_165, hpost_166⟩ := hw
    have hfr0 : ∀ b, kd b ≠ 11 → kd b ≠ 533 → f_156 b = f b := fun b q11 q533 => (hkc_157 b q11 q533).trans (hfr0 b q11 q533)
    have hrr11_2 : ∀ b, kd b = 11 → fldR (f_156 b) 2 = fldR (f b) 2 := fun b kb => (hrc_158 b kb).trans (hrr11_2 b kb)
    have hrr11_3 : ∀ b, kd b = 11 → fldR (f_156 b) 3 = fldR (f b) 3 := fun b kb => (hrc_159 b kb).trans (hrr11_3 b kb)
    have hrr11_5 : ∀ b, kd b = 11 → fldR (f_156 b) 5 = fldR (f b) 5 := fun b kb => (hrc_160 b kb).trans (hrr11_5 b kb)
    have hrr11_6 : ∀ b, kd b = 11 → fldR (f_156 b) 6 = fldR (f b) 6 := fun b kb => (hrc_161 b kb).trans (hrr11_6 b kb)
    have hrr11_7 : ∀ b, kd b = 11 → fldR (f_156 b) 7 = fldR (f b) 7 := fun b kb => (hrc_162 b kb).trans (hrr11_7 b kb)
    have hrr11_9 : ∀ b, kd b = 11 → fldR (f_156 b) 9 = fldR (f b) 9 := fun b kb => (hrc_163 b kb).trans (hrr11_9 b kb)
    have hrr11_10 : ∀ b, kd b = 11 → fldR (f_156 b) 10 = fldR (f b) 10 := fun b kb => (hrc_164 b kb).trans (hrr11_10 b kb)
    have hrr11_16 : ∀ b, kd b = 11 → fldR (f_156 b) 16 = fldR (f b) 16 := fun b kb => (hrc_165 b kb).trans (hrr11_16 b kb)
    obtain ⟨a_169, v_170, a_171, a_172, a_173, a_174, a_175, a_176, v_177, a_178, a_179, a_180, v_181, v_182, a_183, v_184, a_185, a_186, v_187, hfo_168, ⟨ma_169, ka_169⟩, bv_170, ⟨ma_171, ka_171⟩, ⟨ma_172, ka_172⟩, ⟨ma_173, ka_173⟩, ⟨ma_174, ka_174⟩, ⟨ma_175, ka_175⟩, ⟨ma_176, ka_176⟩, bv_177, ⟨ma_178, ka_178⟩, ⟨ma_179, ka_179⟩, ⟨ma_180, ka_180⟩, bv_181, ⟨ma_183, ka_183⟩, bv_184, ⟨ma_185, ka_185⟩, ⟨ma_186, ka_186⟩⟩ := un_11 (hG _ mo0) ko0
    have bv_182 : ((-2147483648) ≤ v_182.toInt ∧ v_182.toInt ≤ 2147483647) := ⟨i32_lo _, i32_hi _⟩
    have bv_187 : ((-2147483648) ≤ v_187.toInt ∧ v_187.toInt ≤ 2147483647) := ⟨i32_lo _, i32_hi _⟩
    obtain rfl : a_4 = a_171 := by have hk9 := hrr11_2 o0 ko0; rw [hfo_168, hfo_1] at hk9; exact (Option.some.inj hk9).symm
    obtain rfl : a_5 = a_172 := by have hk9 := hrr11_3 o0 ko0; rw [hfo_168, hfo_1] at hk9; exact (Option.some.inj hk9).symm
    obtain rfl : a_7 = a_174 := by have hk9 := hrr11_5 o0 ko0; rw [hfo_168, hfo_1] at hk9; exact (Option.some.inj hk9).symm
    obtain rfl : a_8 = a_175 := by have hk9 := hrr11_6 o0 ko0; rw [hfo_168, hfo_1] at hk9; exact (Option.some.inj hk9).symm
    obtain rfl : a_9 = a_176 := by have hk9 := hrr11_7 o0 ko0; rw [hfo_168, hfo_1] at hk9; exact (Option.some.inj hk9).symm
    obtain rfl : a_11 = a_178 := by have hk9 := hrr11_9 o0 ko0; rw [hfo_168, hfo_1] at hk9; exact (Option.some.inj hk9).symm
    obtain rfl : a_12 = a_179 := by have hk9 := hrr11_10 o0 ko0; rw [hfo_168, hfo_1] at hk9; exact (Option.some.inj hk9).symm
    obtain rfl : a_18 = a_185 := by have hk9 := hrr11_16 o0 ko0; rw [hfo_168, hfo_1] at hk9; exact (Option.some.inj hk9).symm
    have hqhpost_166 := hpost_166 v_137 v_170 (by rw [hfo_135]; rfl) (by rw [hfo_168]; rfl)
    refine lv_aload_n hx hb dX11_feed_42 rfl (lv_at hl 0 rfl) ?_
    refine tk_getP (D := (dC, dI)) (ci := 11) (v := .int v_170) (C := RX11) (T := TX11) (N := 19) hx hb hU inlX11 hown hK hP mo0 hfo_168 rfl 1 (by decide) (hU _ wd_209) (fun _ h9 => h9) rfl dX11_feed_43 ?_
    exact W.iret (v := v_170) hx hb hr (fun t ht hW => ⟨⟨v_170, f_156, rfl, ⟨hG, (by constructor <;> omega), hfr0, hrr11_2, hrr11_3, hrr11_5, hrr11_6, hrr11_7, hrr11_9, hrr11_10, hrr11_16⟩, by rw [ht]; exact hP, va_K.moved hW.alike hK, pl_in hD⟩, hS.F ht⟩) hS.2.2 dX11_feed_46
  · skip
    rw [Int32.le_iff_toInt_le, ti_600] at c_22
    refine lv_iconst (v := (-1)) hx hb dX11_feed_13 (by decide) ?_
    exact W.iret (v := (-1)) hx hb hr (fun t ht hW => ⟨⟨(-1), f, rfl, ⟨hG, (by decide), hfr0, hrr11_2, hrr11_3, hrr11_5, hrr11_6, hrr11_7, hrr11_9, hrr11_10, hrr11_16⟩, by rw [ht]; exact hP, va_K.moved hW.alike hK, pl_in hD⟩, hS.F ht⟩) hS.2.2 dX11_feed_14
set_option maxHeartbeats 8000000 in
set_option maxRecDepth 100000 in
theorem s_X11_areLetters_k11 (l : Launch) (D : va_G) (cI cL cZ cR cG cH : ClassId) (Z : zT) (kd : Nat → Nat) (L : List Nat) (f : Nat → va_E) (hG : GI (okc cI cL cZ cR cG cH L kd) kd L f) (o0 : Nat) (mo0 : o0 ∈ L) (ko0 : kd o0 = 11) (p1 : Int32) (bp1 : (0 ≤ p1.toInt ∧ p1.toInt ≤ 600)) (p2 : Int32) (bp2 : (0 ≤ p2.toInt ∧ p2.toInt ≤ 600)) : mPI l D cI cL cZ cR cG cH Z yX11_areLetters cX11_areLetters 4 (some .boolean) 1 21 [.ref o0, .int p1, .int p2] L f (fun (r : Int32) (f9 : Nat → va_E) => f = f9 ∧ (0 ≤ r.toInt ∧ r.toInt ≤ 1)) := by
  obtain ⟨dC, dI⟩ := D
  refine Met.ofW (cc := cX11_areLetters) (maxL := 4) (ret := (some .boolean)) (by decide) rfl ?_
  intro p e s m args below meth c s₁ B hml hv
  obtain ⟨rfl, hP, hK, hD0, hN, hZ⟩ := hv
  have hx := B.exec
  have hb := B.bytes
  have hr := B.returns
  have hU : ∀ w ∈ wsU, w.before _ s = true := fun w h => atoms_spec (ws := wU yX11_areLetters cX11_areLetters 4 (some .boolean)) B.pre w (List.mem_cons_of_mem _ h)
  have hown : s.vm.findClass RX11 = some m.cls := findClass_of_methodNamed B.named
  have hlocks := B.notSynchronized
  have hD := pl_in hD0
  have hS : va_S (fun q => q ∈ L) s.heap s.heap [] := va_S.rf
  have hl := lv_entry ([.ref o0, .int p1, .int p2]) (n := 4) (Nat.le_of_ble_eq_true rfl)
  rw [lg_entry_eq]
  generalize (lg_sl ([.ref o0, .int p1, .int p2]) ++ List.replicate (4 - (lg_sl ([.ref o0, .int p1, .int p2])).length) Slot.unset).toArray = ls at hl ⊢
  have hl : lv_has ls 4 [(0, .ref o0), (1, .int p1), (2, .int p2)] := hl
  refine lv_iload_n hx hb dX11_areLetters_0 rfl (lv_at hl 1 rfl) ?_
  refine lv_istore_n (lv' := [(3, .int p1), (0, .ref o0), (1, .int p1), (2, .int p2)]) hx hb dX11_areLetters_1 rfl hl (by decide) rfl (fun ls hl => ?_)
  have hloop_5 : ∀ (n : Nat), ∀ (y_6 : Int32), (0 ≤ y_6.toInt ∧ y_6.toInt ≤ 600) → ∀ (H : Heap) (locs : List Loc), va_P (dC, dI) vwCl (va_pl L f) H → va_S (fun q => q ∈ L) s.heap H locs → 600 - y_6.toInt < (n : Int) → ∀ (ls : Array Slot), lv_has ls 4 [(3, .int y_6), (0, .ref o0), (1, .int p1), (2, .int p2)] → W p l e (headSpec (wU yX11_areLetters cX11_areLetters 4 (some .boolean)) { frames := 1, cells := 0, slots := 0, locals := 21 }).room s m [.ref o0, .int p1, .int p2].toArray below meth c H locs 0 0 (MQ below (va_Qi (fun (r : Int32) (f9 : Nat → va_E) => f = f9 ∧ (0 ≤ r.toInt ∧ r.toInt ≤ 1)) (qP (dC, dI) cI cL cZ cR cG cH L) (fun q => q ∈ L)) [.ref o0, .int p1, .int p2].toArray s 0 0 (fun q => q ∈ L)) (F0 m 2 ls []) := by
    intro n
    induction n with
    | zero => intro y_6 by_6 H locs hP hS hmuhloop_5 ls hl; exfalso; omega
    | succ n ih_hloop_5 =>
      intro y_6 by_6 H locs hP hS hmuhloop_5 ls hl
      refine lv_iload_n hx hb dX11_areLetters_2 rfl (lv_at hl 0 rfl) ?_
      refine lv_iload_n hx hb dX11_areLetters_3 rfl (lv_at hl 3 rfl) ?_
      refine lv_icmp_ge (tgt := 31) hx hb dX11_areLetters_4 (by decide) (fun c_8 => ?_) (fun c_8 => ?_)
      · skip
        rw [Int32.le_iff_toInt_le] at c_8
        refine lv_iconst (v := 1) hx hb dX11_areLetters_31 (by decide) ?_
        exact W.zret (v := 1) (ty := .boolean) hx hb hr rfl (fun t ht hW => ⟨⟨1, f, rfl, ⟨rfl, (by decide)⟩, by rw [ht]; exact hP, va_K.moved hW.alike hK, pl_in hD⟩, hS.F ht⟩) hS.2.2 dX11_areLetters_32
      · skip
        rw [Int32.le_iff_toInt_le] at c_8
        refine lv_aload_n hx hb dX11_areLetters_7 rfl (lv_at hl 1 rfl) ?_
        obtain ⟨a_10, v_11, a_12, a_13, a_14, a_15, a_16, a_17, v_18, a_19, a_20, a_21, v_22, v_23, a_24, v_25, a_26, a_27, v_28, hfo_9, ⟨ma_10, ka_10⟩, bv_11, ⟨ma_12, ka_12⟩, ⟨ma_13, ka_13⟩, ⟨ma_14, ka_14⟩, ⟨ma_15, ka_15⟩, ⟨ma_16, ka_16⟩, ⟨ma_17, ka_17⟩, bv_18, ⟨ma_19, ka_19⟩, ⟨ma_20, ka_20⟩, ⟨ma_21, ka_21⟩, bv_22, ⟨ma_24, ka_24⟩, bv_25, ⟨ma_26, ka_26⟩, ⟨ma_27, ka_27⟩⟩ := un_11 (hG _ mo0) ko0
        have bv_23 : ((-2147483648) ≤ v_23.toInt ∧ v_23.toInt ≤ 2147483647) := ⟨i32_lo _, i32_hi _⟩
        have bv_28 : ((-2147483648) ≤ v_28.toInt ∧ v_28.toInt ≤ 2147483647) := ⟨i32_lo _, i32_hi _⟩
        refine tk_getP (D := (dC, dI)) (ci := 11) (v := .ref a_13) (C := RX11) (T := TX11) (N := 19) hx hb hU inlX11 hown hK hP mo0 hfo_9 rfl 3 (by decide) (hU _ wd_19) (fun _ h9 => h9) rfl dX11_areLetters_8 ?_
        refine lv_aload_n hx hb dX11_areLetters_11 rfl (lv_at hl 1 rfl) ?_
        refine tk_getP (D := (dC, dI)) (ci := 11) (v := .ref a_10) (C := RX11) (T := TX11) (N := 19) hx hb hU inlX11 hown hK hP mo0 hfo_9 rfl 0 (by decide) (hU _ wd_13) (fun _ h9 => h9) rfl dX11_areLetters_12 ?_
        refine lv_iload_n hx hb dX11_areLetters_15 rfl (lv_at hl 0 rfl) ?_
        obtain ⟨g_30, hfo_29, hbg_30⟩ := un_533 (hG _ ma_10) ka_10
        refine tk_ildP hx hb hK hP 0 ma_10 hfo_29 rfl (vp_in_iff.mpr (by constructor <;> omega)) dX11_areLetters_16 ?_
        refine lv_topi (fun x_31 ex_31 => ?_)
        have bx_31 : ((-2147483648) ≤ x_31.toInt ∧ x_31.toInt ≤ 2147483647) := ⟨i32_lo _, i32_hi _⟩
        obtain ⟨a_33, v_34, a_35, a_36, a_37, a_38, v_39, a_40, a_41, a_42, a_43, a_44, v_45, a_46, a_47, a_48, hfo_32, ⟨ma_33, ka_33⟩, bv_34, ⟨ma_35, ka_35⟩, ⟨ma_36, ka_36⟩, ⟨ma_37, ka_37⟩, ⟨ma_38, ka_38⟩, bv_39, ⟨ma_40, ka_40⟩, ⟨ma_41, ka_41⟩, ⟨ma_42, ka_42⟩, ⟨ma_43, ka_43⟩, ⟨ma_44, ka_44⟩, bv_45, ⟨ma_46, ka_46⟩, ⟨ma_47, ka_47⟩, ⟨ma_48, ka_48⟩⟩ := un_7 (hG _ ma_13) ka_13
        refine tk_ViP (As := [.int x_31]) (rest := []) (n := 1) hx hb hml hown hU hN hZ (s_X7_signOf_k7 l (dC, dI) cI cL cZ cR cG cH Z kd L f hG a_13 ma_13 ka_13 x_31) wd_717 wd_346 wd_347 wd_28 wd_348 (by decide +kernel) ⟨Nat.le_of_ble_eq_true rfl, Nat.le_of_ble_eq_true rfl⟩ hK hP hD hS ma_13 hfo_32 7 rfl rfl rfl hl.1 rfl (Nat.le_of_ble_eq_true rfl) dX11_areLetters_17 ⟨Nat.le_of_ble_eq_true rfl, Nat.le_of_ble_eq_true rfl⟩ (fun x_49 f_50 H locs hw hP hD hS => ?_)
        obtain ⟨rfl, bx_49⟩ := hw
        refine lv_if_ne (tgt := 25) hx hb dX11_areLetters_20 (by decide) (fun c_52 => ?_) (fun c_52 => ?_)
        · skip
          rw [← Int32.toInt_inj, ti_0] at c_52
          obtain ⟨x_53, ex_53⟩ : ∃ y : Int32, y_6 + 1 = y := ⟨_, rfl⟩
          have hx_53 : x_53.toInt = y_6.toInt + 1 := by rw [← ex_53, ad_I (by rw [ti_1]; omega) (by rw [ti_1]; omega), ti_1]
          have bx_53 : (1 ≤ x_53.toInt ∧ x_53.toInt ≤ 600) := by constructor <;> omega
          refine lv_iinc (v := x_53) (lv' := [(3, .int x_53), (0, .ref o0), (1, .int p1), (2, .int p2)]) hx hb dX11_areLetters_25 hl (k := 0) rfl ex_53 (by decide) rfl (fun ls hl => ?_)
          refine lv_goto (tgt := 2) hx hb dX11_areLetters_28 (by decide) ?_
          exact ih_hloop_5 x_53 (by constructor <;> omega) _ _ hP hS (by omega) ls (lv_sub hl [0, 1, 2, 3] rfl)
        · skip
          rw [← Int32.toInt_inj, ti_0] at c_52
          refine lv_iconst (v := 0) hx hb dX11_areLetters_23 (by decide) ?_
          exact W.zret (v := 0) (ty := .boolean) hx hb hr rfl (fun t ht hW => ⟨⟨0, f, rfl, ⟨rfl, (by decide)⟩, by rw [ht]; exact hP, va_K.moved hW.alike hK, pl_in hD⟩, hS.F ht⟩) hS.2.2 dX11_areLetters_24
  exact hloop_5 601 p1 (by constructor <;> omega) _ _ hP hS (by omega) ls hl
set_option maxHeartbeats 8000000 in
set_option maxRecDepth 100000 in
theorem s_X11_placeOfColon_k11 (l : Launch) (D : va_G) (cI cL cZ cR cG cH : ClassId) (Z : zT) (kd : Nat → Nat) (L : List Nat) (f : Nat → va_E) (hG : GI (okc cI cL cZ cR cG cH L kd) kd L f) (o0 : Nat) (mo0 : o0 ∈ L) (ko0 : kd o0 = 11) (p1 : Int32) (bp1 : (0 ≤ p1.toInt ∧ p1.toInt ≤ 600)) : mPI l D cI cL cZ cR cG cH Z yX11_placeOfColon cX11_placeOfColon 3 (some .int) 0 0 [.ref o0, .int p1] L f (fun (r : Int32) (f9 : Nat → va_E) => f = f9 ∧ ((-1) ≤ r.toInt ∧ r.toInt ≤ 599)) := by
  obtain ⟨dC, dI⟩ := D
  refine Met.ofW (cc := cX11_placeOfColon) (maxL := 3) (ret := (some .int)) (by decide) rfl ?_
  intro p e s m args below meth c s₁ B hml hv
  obtain ⟨rfl, hP, hK, hD0, hN, hZ⟩ := hv
  have hx := B.exec
  have hb := B.bytes
  have hr := B.returns
  have hU : ∀ w ∈ wsU, w.before _ s = true := fun w h => atoms_spec (ws := wU yX11_placeOfColon cX11_placeOfColon 3 (some .int)) B.pre w (List.mem_cons_of_mem _ h)
  have hown : s.vm.findClass RX11 = some m.cls := findClass_of_methodNamed B.named
  have hlocks := B.notSynchronized
  have hD := pl_in hD0
  have hS : va_S (fun q => q ∈ L) s.heap s.heap [] := va_S.rf
  have hl := lv_entry ([.ref o0, .int p1]) (n := 3) (Nat.le_of_ble_eq_true rfl)
  rw [lg_entry_eq]
  generalize (lg_sl ([.ref o0, .int p1]) ++ List.replicate (3 - (lg_sl ([.ref o0, .int p1])).length) Slot.unset).toArray = ls at hl ⊢
  have hl : lv_has ls 3 [(0, .ref o0), (1, .int p1)] := hl
  refine lv_iconst (v := 0) hx hb dX11_placeOfColon_0 (by decide) ?_
  refine lv_istore_n (lv' := [(2, .int 0), (0, .ref o0), (1, .int p1)]) hx hb dX11_placeOfColon_1 rfl hl (by decide) rfl (fun ls hl => ?_)
  have hloop_7 : ∀ (n : Nat), ∀ (y_8 : Int32), (0 ≤ y_8.toInt ∧ y_8.toInt ≤ 600) → 600 - y_8.toInt < (n : Int) → ∀ (ls : Array Slot), lv_has ls 3 [(2, .int y_8), (0, .ref o0), (1, .int p1)] → W p l e (headSpec (wU yX11_placeOfColon cX11_placeOfColon 3 (some .int)) { frames := 0, cells := 0, slots := 0, locals := 0 }).room s m [.ref o0, .int p1].toArray below meth c s.heap [] 0 0 (MQ below (va_Qi (fun (r : Int32) (f9 : Nat → va_E) => f = f9 ∧ ((-1) ≤ r.toInt ∧ r.toInt ≤ 599)) (qP (dC, dI) cI cL cZ cR cG cH L) (fun q => q ∈ L)) [.ref o0, .int p1].toArray s 0 0 (fun q => q ∈ L)) (F0 m 2 ls []) := by
    intro n
    induction n with
    | zero => intro y_8 by_8 hmuhloop_7 ls hl; exfalso; omega
    | succ n ih_hloop_7 =>
      intro y_8 by_8 hmuhloop_7 ls hl
      refine lv_iload_n hx hb dX11_placeOfColon_2 rfl (lv_at hl 0 rfl) ?_
      refine lv_iload_n hx hb dX11_placeOfColon_3 rfl (lv_at hl 2 rfl) ?_
      refine lv_icmp_ge (tgt := 26) hx hb dX11_placeOfColon_4 (by decide) (fun c_9 => ?_) (fun c_9 => ?_)
      · skip
        rw [Int32.le_iff_toInt_le] at c_9
        refine lv_iconst (v := (-1)) hx hb dX11_placeOfColon_26 (by decide) ?_
        exact W.iret (v := (-1)) hx hb hr (fun t ht hW => ⟨⟨(-1), f, rfl, ⟨rfl, (by decide)⟩, by rw [ht]; exact hP, va_K.moved hW.alike hK, pl_in hD⟩, hS.F ht⟩) hS.2.2 dX11_placeOfColon_27
      · skip
        rw [Int32.le_iff_toInt_le] at c_9
        refine lv_aload_n hx hb dX11_placeOfColon_7 rfl (lv_at hl 1 rfl) ?_
        obtain ⟨a_11, v_12, a_13, a_14, a_15, a_16, a_17, a_18, v_19, a_20, a_21, a_22, v_23, v_24, a_25, v_26, a_27, a_28, v_29, hfo_10, ⟨ma_11, ka_11⟩, bv_12, ⟨ma_13, ka_13⟩, ⟨ma_14, ka_14⟩, ⟨ma_15, ka_15⟩, ⟨ma_16, ka_16⟩, ⟨ma_17, ka_17⟩, ⟨ma_18, ka_18⟩, bv_19, ⟨ma_20, ka_20⟩, ⟨ma_21, ka_21⟩, ⟨ma_22, ka_22⟩, bv_23, ⟨ma_25, ka_25⟩, bv_26, ⟨ma_27, ka_27⟩, ⟨ma_28, ka_28⟩⟩ := un_11 (hG _ mo0) ko0
        have bv_24 : ((-2147483648) ≤ v_24.toInt ∧ v_24.toInt ≤ 2147483647) := ⟨i32_lo _, i32_hi _⟩
        have bv_29 : ((-2147483648) ≤ v_29.toInt ∧ v_29.toInt ≤ 2147483647) := ⟨i32_lo _, i32_hi _⟩
        refine tk_getP (D := (dC, dI)) (ci := 11) (v := .ref a_11) (C := RX11) (T := TX11) (N := 19) hx hb hU inlX11 hown hK hP mo0 hfo_10 rfl 0 (by decide) (hU _ wd_13) (fun _ h9 => h9) rfl dX11_placeOfColon_8 ?_
        refine lv_iload_n hx hb dX11_placeOfColon_11 rfl (lv_at hl 0 rfl) ?_
        obtain ⟨g_31, hfo_30, hbg_31⟩ := un_533 (hG _ ma_11) ka_11
        refine tk_ildP hx hb hK hP 0 ma_11 hfo_30 rfl (vp_in_iff.mpr (by constructor <;> omega)) dX11_placeOfColon_12 ?_
        refine lv_topi (fun x_32 ex_32 => ?_)
        have bx_32 : ((-2147483648) ≤ x_32.toInt ∧ x_32.toInt ≤ 2147483647) := ⟨i32_lo _, i32_hi _⟩
        refine lv_bipush (v := 58) hx hb dX11_placeOfColon_13 (by decide) ?_
        refine lv_icmp_ne (tgt := 20) hx hb dX11_placeOfColon_15 (by decide) (fun c_33 => ?_) (fun c_33 => ?_)
        · skip
          rw [← Int32.toInt_inj, ti_58] at c_33
          obtain ⟨x_34, ex_34⟩ : ∃ y : Int32, y_8 + 1 = y := ⟨_, rfl⟩
          have hx_34 : x_34.toInt = y_8.toInt + 1 := by rw [← ex_34, ad_I (by rw [ti_1]; omega) (by rw [ti_1]; omega), ti_1]
          have bx_34 : (1 ≤ x_34.toInt ∧ x_34.toInt ≤ 600) := by constructor <;> omega
          refine lv_iinc (v := x_34) (lv' := [(2, .int x_34), (0, .ref o0), (1, .int p1)]) hx hb dX11_placeOfColon_20 hl (k := 0) rfl ex_34 (by decide) rfl (fun ls hl => ?_)
          refine lv_goto (tgt := 2) hx hb dX11_placeOfColon_23 (by decide) ?_
          exact ih_hloop_7 x_34 (by constructor <;> omega) (by omega) ls (lv_sub hl [0, 1, 2] rfl)
        · skip
          rw [← Int32.toInt_inj, ti_58] at c_33
          refine lv_iload_n hx hb dX11_placeOfColon_18 rfl (lv_at hl 0 rfl) ?_
          exact W.iret (v := y_8) hx hb hr (fun t ht hW => ⟨⟨y_8, f, rfl, ⟨rfl, (by constructor <;> omega)⟩, by rw [ht]; exact hP, va_K.moved hW.alike hK, pl_in hD⟩, hS.F ht⟩) hS.2.2 dX11_placeOfColon_19
  exact hloop_7 601 0 (by decide) (by (try rw [ti_0]) <;> omega) ls hl
set_option maxHeartbeats 8000000 in
set_option maxRecDepth 100000 in
theorem s_X11_rule_k11 (l : Launch) (D : va_G) (cI cL cZ cR cG cH : ClassId) (Z : zT) (kd : Nat → Nat) (L : List Nat) (f : Nat → va_E) (hG : GI (okc cI cL cZ cR cG cH L kd) kd L f) (o0 : Nat) (mo0 : o0 ∈ L) (ko0 : kd o0 = 11) (p1 : Int32) (p2 : Int32) : mPI l D cI cL cZ cR cG cH Z yX11_rule cX11_rule 4 (some .int) 1 21 [.ref o0, .int p1, .int p2] L f (fun (r : Int32) (f9 : Nat → va_E) => f = f9 ∧ ((-2147483648) ≤ r.toInt ∧ r.toInt ≤ 2147483647)) := by
  obtain ⟨dC, dI⟩ := D
  refine Met.ofW (cc := cX11_rule) (maxL := 4) (ret := (some .int)) (by decide) rfl ?_
  intro p e s m args below meth c s₁ B hml hv
  obtain ⟨rfl, hP, hK, hD0, hN, hZ⟩ := hv
  have hx := B.exec
  have hb := B.bytes
  have hr := B.returns
  have hU : ∀ w ∈ wsU, w.before _ s = true := fun w h => atoms_spec (ws := wU yX11_rule cX11_rule 4 (some .int)) B.pre w (List.mem_cons_of_mem _ h)
  have hown : s.vm.findClass RX11 = some m.cls := findClass_of_methodNamed B.named
  have hlocks := B.notSynchronized
  have hD := pl_in hD0
  have hS : va_S (fun q => q ∈ L) s.heap s.heap [] := va_S.rf
  have hl := lv_entry ([.ref o0, .int p1, .int p2]) (n := 4) (Nat.le_of_ble_eq_true rfl)
  rw [lg_entry_eq]
  generalize (lg_sl ([.ref o0, .int p1, .int p2]) ++ List.replicate (4 - (lg_sl ([.ref o0, .int p1, .int p2])).length) Slot.unset).toArray = ls at hl ⊢
  have hl : lv_has ls 4 [(0, .ref o0), (1, .int p1), (2, .int p2)] := hl
  have bp1 : ((-2147483648) ≤ p1.toInt ∧ p1.toInt ≤ 2147483647) := ⟨i32_lo _, i32_hi _⟩
  have bp2 : ((-2147483648) ≤ p2.toInt ∧ p2.toInt ≤ 2147483647) := ⟨i32_lo _, i32_hi _⟩
  refine lv_aload_n hx hb dX11_rule_0 rfl (lv_at hl 0 rfl) ?_
  refine lv_iload_n hx hb dX11_rule_1 rfl (lv_at hl 1 rfl) ?_
  obtain ⟨a_2, v_3, a_4, a_5, a_6, a_7, a_8, a_9, v_10, a_11, a_12, a_13, v_14, v_15, a_16, v_17, a_18, a_19, v_20, hfo_1, ⟨ma_2, ka_2⟩, bv_3, ⟨ma_4, ka_4⟩, ⟨ma_5, ka_5⟩, ⟨ma_6, ka_6⟩, ⟨ma_7, ka_7⟩, ⟨ma_8, ka_8⟩, ⟨ma_9, ka_9⟩, bv_10, ⟨ma_11, ka_11⟩, ⟨ma_12, ka_12⟩, ⟨ma_13, ka_13⟩, bv_14, ⟨ma_16, ka_16⟩, bv_17, ⟨ma_18, ka_18⟩, ⟨ma_19, ka_19⟩⟩ := un_11 (hG _ mo0) ko0
  have bv_15 : ((-2147483648) ≤ v_15.toInt ∧ v_15.toInt ≤ 2147483647) := ⟨i32_lo _, i32_hi _⟩
  have bv_20 : ((-2147483648) ≤ v_20.toInt ∧ v_20.toInt ≤ 2147483647) := ⟨i32_lo _, i32_hi _⟩
  refine tk_ViP (As := [.int p1]) (rest := []) (n := 1) hx hb hml hown hU hN hZ (s_X11_isRule_k11 l (dC, dI) cI cL cZ cR cG cH Z kd L f hG o0 mo0 ko0 p1) wd_1135 wd_1136 wd_1137 wd_2 wd_1138 (by decide +kernel) ⟨Nat.le_of_ble_eq_true rfl, Nat.le_of_ble_eq_true rfl⟩ hK hP hD hS mo0 hfo_1 11 rfl rfl rfl hl.1 rfl (Nat.le_of_ble_eq_true rfl) dX11_rule_2 ⟨Nat.le_of_ble_eq_true rfl, Nat.le_of_ble_eq_true rfl⟩ (fun x_21 f_22 H locs hw hP hD hS => ?_)
  obtain ⟨rfl, bx_21, relx_21⟩ := hw
  refine lv_if_ne (tgt := 10) hx hb dX11_rule_5 (by decide) (fun c_24 => ?_) (fun c_24 => ?_)
  · skip
    rw [← Int32.toInt_inj, ti_0] at c_24
    refine lv_aload_n hx hb dX11_rule_10 rfl (lv_at hl 0 rfl) ?_
    refine tk_getP (D := (dC, dI)) (ci := 11) (v := .ref a_5) (C := RX11) (T := TX11) (N := 19) hx hb hU inlX11 hown hK hP mo0 hfo_1 rfl 3 (by decide) (hU _ wd_19) (fun _ h9 => h9) rfl dX11_rule_11 ?_
    obtain ⟨a_26, v_27, a_28, a_29, a_30, a_31, v_32, a_33, a_34, a_35, a_36, a_37, v_38, a_39, a_40, a_41, hfo_25, ⟨ma_26, ka_26⟩, bv_27, ⟨ma_28, ka_28⟩, ⟨ma_29, ka_29⟩, ⟨ma_30, ka_30⟩, ⟨ma_31, ka_31⟩, bv_32, ⟨ma_33, ka_33⟩, ⟨ma_34, ka_34⟩, ⟨ma_35, ka_35⟩, ⟨ma_36, ka_36⟩, ⟨ma_37, ka_37⟩, bv_38, ⟨ma_39, ka_39⟩, ⟨ma_40, ka_40⟩, ⟨ma_41, ka_41⟩⟩ := un_7 (hG _ ma_5) ka_5
    refine tk_getP (D := (dC, dI)) (ci := 7) (v := .ref a_37) (C := RX7) (T := TX7) (N := 16) hx hb hU inlX7 hown hK hP ma_5 hfo_25 rfl 11 (by decide) (hU _ wd_1070) (fun _ h9 => h9) rfl dX11_rule_14 ?_
    refine lv_iload_n hx hb dX11_rule_17 rfl (lv_at hl 1 rfl) ?_
    obtain ⟨g_43, hfo_42, hbg_43⟩ := un_515 (hG _ ma_37) ka_37
    obtain ⟨a_44, hga_44, ma_44, ka_44⟩ := hbg_43 (Int32.toNatClampNeg p1) (in_lt (vp_in_iff.mpr (by constructor <;> omega)))
    refine tk_aldP hx hb hK hP 3 ma_37 hfo_42 rfl (vp_in_iff.mpr (by constructor <;> omega)) hga_44 dX11_rule_18 ?_
    refine lv_astore_n (lv' := [(3, .ref a_44), (0, .ref o0), (1, .int p1), (2, .int p2)]) hx hb dX11_rule_19 rfl hl (by decide) rfl (fun ls hl => ?_)
    refine lv_iload_n hx hb dX11_rule_20 rfl (lv_at hl 3 rfl) ?_
    by_cases c_45 : p2 = 0
    · refine tk_topi (y := 0) c_45 ?_
      refine lv_tableIn (tgt := 56) hx hb dX11_rule_21 (by decide) (by decide) rfl (by decide) ?_
      refine lv_aload_n hx hb dX11_rule_56 rfl (lv_at hl 0 rfl) ?_
      obtain ⟨v_47, v_48, v_49, v_50, a_51, a_52, a_53, a_54, v_55, v_56, v_57, hfo_46, bv_47, bv_48, bv_49, bv_50, ⟨ma_51, ka_51⟩, ⟨ma_52, ka_52⟩, ⟨ma_53, ka_53⟩, ⟨ma_54, ka_54⟩⟩ := un_4 (hG _ ma_44) ka_44
      have bv_55 : ((-2147483648) ≤ v_55.toInt ∧ v_55.toInt ≤ 2147483647) := ⟨i32_lo _, i32_hi _⟩
      have bv_56 : ((-2147483648) ≤ v_56.toInt ∧ v_56.toInt ≤ 2147483647) := ⟨i32_lo _, i32_hi _⟩
      have bv_57 : ((-2147483648) ≤ v_57.toInt ∧ v_57.toInt ≤ 2147483647) := ⟨i32_lo _, i32_hi _⟩
      refine tk_getP (D := (dC, dI)) (ci := 4) (v := .int v_47) (C := RX4) (T := TX4) (N := 11) hx hb hU inlX4 hown hK hP ma_44 hfo_46 rfl 0 (by decide) (hU _ wd_1460) (fun _ h9 => h9) rfl dX11_rule_57 ?_
      exact W.iret (v := v_47) hx hb hr (fun t ht hW => ⟨⟨v_47, f, rfl, ⟨rfl, (by constructor <;> omega)⟩, by rw [ht]; exact hP, va_K.moved hW.alike hK, pl_in hD⟩, hS.F ht⟩) hS.2.2 dX11_rule_60
    by_cases c_58 : p2 = 1
    · refine tk_topi (y := 1) c_58 ?_
      refine lv_tableIn (tgt := 61) hx hb dX11_rule_21 (by decide) (by decide) rfl (by decide) ?_
      refine lv_aload_n hx hb dX11_rule_61 rfl (lv_at hl 0 rfl) ?_
      obtain ⟨v_60, v_61, v_62, v_63, a_64, a_65, a_66, a_67, v_68, v_69, v_70, hfo_59, bv_60, bv_61, bv_62, bv_63, ⟨ma_64, ka_64⟩, ⟨ma_65, ka_65⟩, ⟨ma_66, ka_66⟩, ⟨ma_67, ka_67⟩⟩ := un_4 (hG _ ma_44) ka_44
      have bv_68 : ((-2147483648) ≤ v_68.toInt ∧ v_68.toInt ≤ 2147483647) := ⟨i32_lo _, i32_hi _⟩
      have bv_69 : ((-2147483648) ≤ v_69.toInt ∧ v_69.toInt ≤ 2147483647) := ⟨i32_lo _, i32_hi _⟩
      have bv_70 : ((-2147483648) ≤ v_70.toInt ∧ v_70.toInt ≤ 2147483647) := ⟨i32_lo _, i32_hi _⟩
      refine tk_getP (D := (dC, dI)) (ci := 4) (v := .int v_61) (C := RX4) (T := TX4) (N := 11) hx hb hU inlX4 hown hK hP ma_44 hfo_59 rfl 1 (by decide) (hU _ wd_1461) (fun _ h9 => h9) rfl dX11_rule_62 ?_
      exact W.iret (v := v_61) hx hb hr (fun t ht hW => ⟨⟨v_61, f, rfl, ⟨rfl, (by constructor <;> omega)⟩, by rw [ht]; exact hP, va_K.moved hW.alike hK, pl_in hD⟩, hS.F ht⟩) hS.2.2 dX11_rule_65
    by_cases c_71 : p2 = 2
    · refine tk_topi (y := 2) c_71 ?_
      refine lv_tableIn (tgt := 66) hx hb dX11_rule_21 (by decide) (by decide) rfl (by decide) ?_
      refine lv_aload_n hx hb dX11_rule_66 rfl (lv_at hl 0 rfl) ?_
      obtain ⟨v_73, v_74, v_75, v_76, a_77, a_78, a_79, a_80, v_81, v_82, v_83, hfo_72, bv_73, bv_74, bv_75, bv_76, ⟨ma_77, ka_77⟩, ⟨ma_78, ka_78⟩, ⟨ma_79, ka_79⟩, ⟨ma_80, ka_80⟩⟩ := un_4 (hG _ ma_44) ka_44
      have bv_81 : ((-2147483648) ≤ v_81.toInt ∧ v_81.toInt ≤ 2147483647) := ⟨i32_lo _, i32_hi _⟩
      have bv_82 : ((-2147483648) ≤ v_82.toInt ∧ v_82.toInt ≤ 2147483647) := ⟨i32_lo _, i32_hi _⟩
      have bv_83 : ((-2147483648) ≤ v_83.toInt ∧ v_83.toInt ≤ 2147483647) := ⟨i32_lo _, i32_hi _⟩
      refine tk_getP (D := (dC, dI)) (ci := 4) (v := .int v_75) (C := RX4) (T := TX4) (N := 11) hx hb hU inlX4 hown hK hP ma_44 hfo_72 rfl 2 (by decide) (hU _ wd_1462) (fun _ h9 => h9) rfl dX11_rule_67 ?_
      exact W.iret (v := v_75) hx hb hr (fun t ht hW => ⟨⟨v_75, f, rfl, ⟨rfl, (by constructor <;> omega)⟩, by rw [ht]; exact hP, va_K.moved hW.alike hK, pl_in hD⟩, hS.F ht⟩) hS.2.2 dX11_rule_70
    by_cases c_84 : p2 = 3
    · refine tk_topi (y := 3) c_84 ?_
      refine lv_tableIn (tgt := 71) hx hb dX11_rule_21 (by decide) (by decide) rfl (by decide) ?_
      refine lv_aload_n hx hb dX11_rule_71 rfl (lv_at hl 0 rfl) ?_
      obtain ⟨v_86, v_87, v_88, v_89, a_90, a_91, a_92, a_93, v_94, v_95, v_96, hfo_85, bv_86, bv_87, bv_88, bv_89, ⟨ma_90, ka_90⟩, ⟨ma_91, ka_91⟩, ⟨ma_92, ka_92⟩, ⟨ma_93, ka_93⟩⟩ := un_4 (hG _ ma_44) ka_44
      have bv_94 : ((-2147483648) ≤ v_94.toInt ∧ v_94.toInt ≤ 2147483647) := ⟨i32_lo _, i32_hi _⟩
      have bv_95 : ((-2147483648) ≤ v_95.toInt ∧ v_95.toInt ≤ 2147483647) := ⟨i32_lo _, i32_hi _⟩
      have bv_96 : ((-2147483648) ≤ v_96.toInt ∧ v_96.toInt ≤ 2147483647) := ⟨i32_lo _, i32_hi _⟩
      refine tk_getP (D := (dC, dI)) (ci := 4) (v := .int v_89) (C := RX4) (T := TX4) (N := 11) hx hb hU inlX4 hown hK hP ma_44 hfo_85 rfl 3 (by decide) (hU _ wd_1463) (fun _ h9 => h9) rfl dX11_rule_72 ?_
      exact W.iret (v := v_89) hx hb hr (fun t ht hW => ⟨⟨v_89, f, rfl, ⟨rfl, (by constructor <;> omega)⟩, by rw [ht]; exact hP, va_K.moved hW.alike hK, pl_in hD⟩, hS.F ht⟩) hS.2.2 dX11_rule_75
    by_cases c_97 : p2 = 4
    · refine tk_topi (y := 4) c_97 ?_
      refine lv_tableIn (tgt := 76) hx hb dX11_rule_21 (by decide) (by decide) rfl (by decide) ?_
      refine lv_aload_n hx hb dX11_rule_76 rfl (lv_at hl 1 rfl) ?_
      refine tk_getP (D := (dC, dI)) (ci := 11) (v := .ref a_7) (C := RX11) (T := TX11) (N := 19) hx hb hU inlX11 hown hK hP mo0 hfo_1 rfl 5 (by decide) (hU _ wd_25) (fun _ h9 => h9) rfl dX11_rule_77 ?_
      obtain ⟨v_99, v_100, a_101, a_102, a_103, v_104, a_105, a_106, a_107, hfo_98, bv_100, ⟨ma_101, ka_101⟩, ⟨ma_102, ka_102⟩, ⟨ma_103, ka_103⟩, ⟨ma_105, ka_105⟩, ⟨ma_106, ka_106⟩, ⟨ma_107, ka_107⟩⟩ := un_6 (hG _ ma_7) ka_7
      have bv_99 : ((-2147483648) ≤ v_99.toInt ∧ v_99.toInt ≤ 2147483647) := ⟨i32_lo _, i32_hi _⟩
      have bv_104 : ((-2147483648) ≤ v_104.toInt ∧ v_104.toInt ≤ 2147483647) := ⟨i32_lo _, i32_hi _⟩
      refine tk_getP (D := (dC, dI)) (ci := 6) (v := .int v_99) (C := RX6) (T := TX6) (N := 9) hx hb hU inlX6 hown hK hP ma_7 hfo_98 rfl 0 (by decide) (hU _ wd_677) (fun _ h9 => h9) rfl dX11_rule_80 ?_
      refine lv_iload_n hx hb dX11_rule_83 rfl (lv_at hl 2 rfl) ?_
      refine lv_ishr hx hb dX11_rule_84 ?_
      refine lv_topi (fun x_108 ex_108 => ?_)
      have bx_108 : ((-2147483648) ≤ x_108.toInt ∧ x_108.toInt ≤ 2147483647) := ⟨i32_lo _, i32_hi _⟩
      refine lv_iconst (v := 1) hx hb dX11_rule_85 (by decide) ?_
      refine lv_iand hx hb dX11_rule_86 ?_
      refine lv_topi (fun x_109 ex_109 => ?_)
      have bx_109 : (0 ≤ x_109.toInt ∧ x_109.toInt ≤ 1) := by rw [ex_109]; have h8 := an_C x_108 (m := 1) (by decide); rw [ti_1] at h8; exact h8
      exact W.iret (v := x_109) hx hb hr (fun t ht hW => ⟨⟨x_109, f, rfl, ⟨rfl, (by constructor <;> omega)⟩, by rw [ht]; exact hP, va_K.moved hW.alike hK, pl_in hD⟩, hS.F ht⟩) hS.2.2 dX11_rule_87
    rw [← Int32.toInt_inj, ti_0] at c_45
    rw [← Int32.toInt_inj, ti_1] at c_58
    rw [← Int32.toInt_inj, ti_2] at c_71
    rw [← Int32.toInt_inj, ti_3] at c_84
    rw [← Int32.toInt_inj, ti_4] at c_97
    refine lv_tableOut (tgt := 88) hx hb dX11_rule_21 (by omega) (by decide) ?_
    refine lv_iconst (v := (-1)) hx hb dX11_rule_88 (by decide) ?_
    exact W.iret (v := (-1)) hx hb hr (fun t ht hW => ⟨⟨(-1), f, rfl, ⟨rfl, (by decide)⟩, by rw [ht]; exact hP, va_K.moved hW.alike hK, pl_in hD⟩, hS.F ht⟩) hS.2.2 dX11_rule_89
  · skip
    rw [← Int32.toInt_inj, ti_0] at c_24
    refine lv_iconst (v := (-1)) hx hb dX11_rule_8 (by decide) ?_
    exact W.iret (v := (-1)) hx hb hr (fun t ht hW => ⟨⟨(-1), f, rfl, ⟨rfl, (by decide)⟩, by rw [ht]; exact hP, va_K.moved hW.alike hK, pl_in hD⟩, hS.F ht⟩) hS.2.2 dX11_rule_9
set_option maxHeartbeats 8000000 in
set_option maxRecDepth 100000 in
theorem s_X11_order_k11 (l : Launch) (D : va_G) (cI cL cZ cR cG cH : ClassId) (Z : zT) (kd : Nat → Nat) (L : List Nat) (f : Nat → va_E) (hG : GI (okc cI cL cZ cR cG cH L kd) kd L f) (o0 : Nat) (mo0 : o0 ∈ L) (ko0 : kd o0 = 11) (p1 : Int32) (p2 : Int32) : mPI l D cI cL cZ cR cG cH Z yX11_order cX11_order 3 (some .boolean) 1 24 [.ref o0, .int p1, .int p2] L f (fun (r : Int32) (f9 : Nat → va_E) => GI (okc cI cL cZ cR cG cH L kd) kd L f9 ∧ (0 ≤ r.toInt ∧ r.toInt ≤ 1) ∧ (∀ b, kd b ≠ 530 → f9 b = f b)) := by
  obtain ⟨dC, dI⟩ := D
  refine Met.ofW (cc := cX11_order) (maxL := 3) (ret := (some .boolean)) (by decide) rfl ?_
  intro p e s m args below meth c s₁ B hml hv
  obtain ⟨rfl, hP, hK, hD0, hN, hZ⟩ := hv
  have hx := B.exec
  have hb := B.bytes
  have hr := B.returns
  have hU : ∀ w ∈ wsU, w.before _ s = true := fun w h => atoms_spec (ws := wU yX11_order cX11_order 3 (some .boolean)) B.pre w (List.mem_cons_of_mem _ h)
  have hown : s.vm.findClass RX11 = some m.cls := findClass_of_methodNamed B.named
  have hlocks := B.notSynchronized
  have hD := pl_in hD0
  have hS : va_S (fun q => q ∈ L) s.heap s.heap [] := va_S.rf
  have hl := lv_entry ([.ref o0, .int p1, .int p2]) (n := 3) (Nat.le_of_ble_eq_true rfl)
  rw [lg_entry_eq]
  generalize (lg_sl ([.ref o0, .int p1, .int p2]) ++ List.replicate (3 - (lg_sl ([.ref o0, .int p1, .int p2])).length) Slot.unset).toArray = ls at hl ⊢
  have hl : lv_has ls 3 [(0, .ref o0), (1, .int p1), (2, .int p2)] := hl
  have bp1 : ((-2147483648) ≤ p1.toInt ∧ p1.toInt ≤ 2147483647) := ⟨i32_lo _, i32_hi _⟩
  have bp2 : ((-2147483648) ≤ p2.toInt ∧ p2.toInt ≤ 2147483647) := ⟨i32_lo _, i32_hi _⟩
  have hfr0 : ∀ b, kd b ≠ 530 → f b = f b := fun _ _ => rfl
  refine lv_aload_n hx hb dX11_order_0 rfl (lv_at hl 0 rfl) ?_
  refine lv_iload_n hx hb dX11_order_1 rfl (lv_at hl 1 rfl) ?_
  obtain ⟨a_2, v_3, a_4, a_5, a_6, a_7, a_8, a_9, v_10, a_11, a_12, a_13, v_14, v_15, a_16, v_17, a_18, a_19, v_20, hfo_1, ⟨ma_2, ka_2⟩, bv_3, ⟨ma_4, ka_4⟩, ⟨ma_5, ka_5⟩, ⟨ma_6, ka_6⟩, ⟨ma_7, ka_7⟩, ⟨ma_8, ka_8⟩, ⟨ma_9, ka_9⟩, bv_10, ⟨ma_11, ka_11⟩, ⟨ma_12, ka_12⟩, ⟨ma_13, ka_13⟩, bv_14, ⟨ma_16, ka_16⟩, bv_17, ⟨ma_18, ka_18⟩, ⟨ma_19, ka_19⟩⟩ := un_11 (hG _ mo0) ko0
  have bv_15 : ((-2147483648) ≤ v_15.toInt ∧ v_15.toInt ≤ 2147483647) := ⟨i32_lo _, i32_hi _⟩
  have bv_20 : ((-2147483648) ≤ v_20.toInt ∧ v_20.toInt ≤ 2147483647) := ⟨i32_lo _, i32_hi _⟩
  refine tk_ViP (As := [.int p1]) (rest := []) (n := 1) hx hb hml hown hU hN hZ (s_X11_isRule_k11 l (dC, dI) cI cL cZ cR cG cH Z kd L f hG o0 mo0 ko0 p1) wd_1135 wd_1136 wd_1137 wd_2 wd_1138 (by decide +kernel) ⟨Nat.le_of_ble_eq_true rfl, Nat.le_of_ble_eq_true rfl⟩ hK hP hD hS mo0 hfo_1 11 rfl rfl rfl hl.1 rfl (Nat.le_of_ble_eq_true rfl) dX11_order_2 ⟨Nat.le_of_ble_eq_true rfl, Nat.le_of_ble_eq_true rfl⟩ (fun x_21 f_22 H locs hw hP hD hS => ?_)
  obtain ⟨rfl, bx_21, relx_21⟩ := hw
  refine lv_if_eq (tgt := 16) hx hb dX11_order_5 (by decide) (fun c_24 => ?_) (fun c_24 => ?_)
  · skip
    rw [← Int32.toInt_inj, ti_0] at c_24
    refine lv_iconst (v := 0) hx hb dX11_order_16 (by decide) ?_
    exact W.zret (v := 0) (ty := .boolean) hx hb hr rfl (fun t ht hW => ⟨⟨0, f, rfl, ⟨hG, (by decide), hfr0⟩, by rw [ht]; exact hP, va_K.moved hW.alike hK, pl_in hD⟩, hS.F ht⟩) hS.2.2 dX11_order_17
  · skip
    rw [← Int32.toInt_inj, ti_0] at c_24
    refine lv_aload_n hx hb dX11_order_8 rfl (lv_at hl 0 rfl) ?_
    refine lv_iload_n hx hb dX11_order_9 rfl (lv_at hl 2 rfl) ?_
    refine tk_ViP (As := [.int p2]) (rest := []) (n := 1) hx hb hml hown hU hN hZ (s_X11_isRule_k11 l (dC, dI) cI cL cZ cR cG cH Z kd L f hG o0 mo0 ko0 p2) wd_1135 wd_1136 wd_1137 wd_2 wd_1138 (by decide +kernel) ⟨Nat.le_of_ble_eq_true rfl, Nat.le_of_ble_eq_true rfl⟩ hK hP hD hS mo0 hfo_1 11 rfl rfl rfl hl.1 rfl (Nat.le_of_ble_eq_true rfl) dX11_order_10 ⟨Nat.le_of_ble_eq_true rfl, Nat.le_of_ble_eq_true rfl⟩ (fun x_25 f_26 H locs hw hP hD hS => ?_)
    obtain ⟨rfl, bx_25, relx_25⟩ := hw
    refine lv_if_ne (tgt := 18) hx hb dX11_order_13 (by decide) (fun c_28 => ?_) (fun c_28 => ?_)
    · skip
      rw [← Int32.toInt_inj, ti_0] at c_28
      refine lv_aload_n hx hb dX11_order_18 rfl (lv_at hl 0 rfl) ?_
      refine tk_getP (D := (dC, dI)) (ci := 11) (v := .ref a_7) (C := RX11) (T := TX11) (N := 19) hx hb hU inlX11 hown hK hP mo0 hfo_1 rfl 5 (by decide) (hU _ wd_25) (fun _ h9 => h9) rfl dX11_order_19 ?_
      refine lv_iload_n hx hb dX11_order_22 rfl (lv_at hl 1 rfl) ?_
      refine lv_iload_n hx hb dX11_order_23 rfl (lv_at hl 2 rfl) ?_
      refine lv_aload_n hx hb dX11_order_24 rfl (lv_at hl 0 rfl) ?_
      refine tk_getP (D := (dC, dI)) (ci := 11) (v := .ref a_5) (C := RX11) (T := TX11) (N := 19) hx hb hU inlX11 hown hK hP mo0 hfo_1 rfl 3 (by decide) (hU _ wd_19) (fun _ h9 => h9) rfl dX11_order_25 ?_
      obtain ⟨a_30, v_31, a_32, a_33, a_34, a_35, v_36, a_37, a_38, a_39, a_40, a_41, v_42, a_43, a_44, a_45, hfo_29, ⟨ma_30, ka_30⟩, bv_31, ⟨ma_32, ka_32⟩, ⟨ma_33, ka_33⟩, ⟨ma_34, ka_34⟩, ⟨ma_35, ka_35⟩, bv_36, ⟨ma_37, ka_37⟩, ⟨ma_38, ka_38⟩, ⟨ma_39, ka_39⟩, ⟨ma_40, ka_40⟩, ⟨ma_41, ka_41⟩, bv_42, ⟨ma_43, ka_43⟩, ⟨ma_44, ka_44⟩, ⟨ma_45, ka_45⟩⟩ := un_7 (hG _ ma_5) ka_5
      refine tk_getP (D := (dC, dI)) (ci := 7) (v := .int v_42) (C := RX7) (T := TX7) (N := 16) hx hb hU inlX7 hown hK hP ma_5 hfo_29 rfl 12 (by decide) (hU _ wd_235) (fun _ h9 => h9) rfl dX11_order_28 ?_
      obtain ⟨v_47, v_48, a_49, a_50, a_51, v_52, a_53, a_54, a_55, hfo_46, bv_48, ⟨ma_49, ka_49⟩, ⟨ma_50, ka_50⟩, ⟨ma_51, ka_51⟩, ⟨ma_53, ka_53⟩, ⟨ma_54, ka_54⟩, ⟨ma_55, ka_55⟩⟩ := un_6 (hG _ ma_7) ka_7
      have bv_47 : ((-2147483648) ≤ v_47.toInt ∧ v_47.toInt ≤ 2147483647) := ⟨i32_lo _, i32_hi _⟩
      have bv_52 : ((-2147483648) ≤ v_52.toInt ∧ v_52.toInt ≤ 2147483647) := ⟨i32_lo _, i32_hi _⟩
      refine tk_VvP (As := [.int p1, .int p2, .int v_42]) (rest := []) (n := 3) hx hb hml hown hU hN hZ (s_X6_moveRule_k6 l (dC, dI) cI cL cZ cR cG cH Z kd L f hG a_7 ma_7 ka_7 p1 (by constructor <;> omega) p2 (by constructor <;> omega) v_42 (by constructor <;> omega)) wd_1139 wd_1140 wd_1141 wd_24 wd_1142 (by decide +kernel) ⟨Nat.le_of_ble_eq_true rfl, Nat.le_of_ble_eq_true rfl⟩ hK hP hD hS ma_7 hfo_46 6 rfl rfl rfl hl.1 rfl (Nat.le_of_ble_eq_true rfl) dX11_order_31 ⟨Nat.le_of_ble_eq_true rfl, Nat.le_of_ble_eq_true rfl⟩ (fun f_57 H locs hw hP hD hS => ?_)
      obtain ⟨hG, hkc_58⟩ := hw
      have hfo_60 : f_57 o0 = .inr (11, [.ref a_2, .int v_3, .ref a_4, .ref a_5, .ref a_6, .ref a_7, .ref a_8, .ref a_9, .int v_10, .ref a_11, .ref a_12, .ref a_13, .int v_14, .int v_15, .ref a_16, .int v_17, .ref a_18, .ref a_19, .int v_20]) := by rw [hkc_58 o0 (by rw [ko0]; decide)]; exact hfo_1
      have hfo_61 : f_57 a_5 = .inr (7, [.ref a_30, .int v_31, .ref a_32, .ref a_33, .ref a_34, .ref a_35, .int v_36, .ref a_37, .ref a_38, .ref a_39, .ref a_40, .ref a_41, .int v_42, .ref a_43, .ref a_44, .ref a_45]) := by rw [hkc_58 a_5 (by rw [ka_5]; decide)]; exact hfo_29
      have hfo_62 : f_57 a_7 = .inr (6, [.int v_47, .int v_48, .ref a_49, .ref a_50, .ref a_51, .int v_52, .ref a_53, .ref a_54, .ref a_55]) := by rw [hkc_58 a_7 (by rw [ka_7]; decide)]; exact hfo_46
      have hfr0 : ∀ b, kd b ≠ 530 → f_57 b = f b := fun b q530 => (hkc_58 b q530).trans (hfr0 b q530)
      refine lv_iconst (v := 1) hx hb dX11_order_34 (by decide) ?_
      exact W.zret (v := 1) (ty := .boolean) hx hb hr rfl (fun t ht hW => ⟨⟨1, f_57, rfl, ⟨hG, (by decide), hfr0⟩, by rw [ht]; exact hP, va_K.moved hW.alike hK, pl_in hD⟩, hS.F ht⟩) hS.2.2 dX11_order_35
    · skip
      rw [← Int32.toInt_inj, ti_0] at c_28
      refine lv_iconst (v := 0) hx hb dX11_order_16 (by decide) ?_
      exact W.zret (v := 0) (ty := .boolean) hx hb hr rfl (fun t ht hW => ⟨⟨0, f, rfl, ⟨hG, (by decide), hfr0⟩, by rw [ht]; exact hP, va_K.moved hW.alike hK, pl_in hD⟩, hS.F ht⟩) hS.2.2 dX11_order_17
set_option maxHeartbeats 8000000 in
set_option maxRecDepth 100000 in
theorem s_X11_image_k11 (l : Launch) (D : va_G) (cI cL cZ cR cG cH : ClassId) (Z : zT) (kd : Nat → Nat) (L : List Nat) (f : Nat → va_E) (hG : GI (okc cI cL cZ cR cG cH L kd) kd L f) (o0 : Nat) (mo0 : o0 ∈ L) (ko0 : kd o0 = 11) (p1 : Int32) (bp1 : (0 ≤ p1.toInt ∧ p1.toInt ≤ 1)) : mPI l D cI cL cZ cR cG cH Z yX11_image cX11_image 2 (some .boolean) 4 104 [.ref o0, .int p1] L f (fun (r : Int32) (f9 : Nat → va_E) => GI (okc cI cL cZ cR cG cH L kd) kd L f9 ∧ (0 ≤ r.toInt ∧ r.toInt ≤ 1) ∧ (∀ b, kd b ≠ 4 → kd b ≠ 5 → kd b ≠ 6 → kd b ≠ 7 → kd b ≠ 9 → kd b ≠ 11 → kd b ≠ 13 → kd b ≠ 104 → kd b ≠ 105 → kd b ≠ 106 → kd b ≠ 107 → kd b ≠ 109 → kd b ≠ 113 → kd b ≠ 500 → kd b ≠ 501 → kd b ≠ 502 → kd b ≠ 503 → kd b ≠ 504 → kd b ≠ 505 → kd b ≠ 506 → kd b ≠ 507 → kd b ≠ 508 → kd b ≠ 509 → kd b ≠ 510 → kd b ≠ 511 → kd b ≠ 514 → kd b ≠ 530 → kd b ≠ 541 → kd b ≠ 542 → kd b ≠ 543 → kd b ≠ 544 → kd b ≠ 545 → kd b ≠ 546 → kd b ≠ 547 → kd b ≠ 548 → kd b ≠ 549 → kd b ≠ 550 → kd b ≠ 551 → kd b ≠ 552 → kd b ≠ 555 → f9 b = f b) ∧ (∀ b, kd b = 7 → fldR (f9 b) 0 = fldR (f b) 0) ∧ (∀ b, kd b = 7 → fldR (f9 b) 3 = fldR (f b) 3) ∧ (∀ b, kd b = 7 → fldR (f9 b) 11 = fldR (f b) 11) ∧ (∀ b, kd b = 11 → fldR (f9 b) 2 = fldR (f b) 2) ∧ (∀ b, kd b = 11 → fldR (f9 b) 3 = fldR (f b) 3) ∧ (∀ b, kd b = 11 → fldR (f9 b) 5 = fldR (f b) 5) ∧ (∀ b, kd b = 11 → fldR (f9 b) 6 = fldR (f b) 6) ∧ (∀ b, kd b = 11 → fldR (f9 b) 7 = fldR (f b) 7) ∧ (∀ b, kd b = 11 → fldR (f9 b) 9 = fldR (f b) 9) ∧ (∀ b, kd b = 11 → fldR (f9 b) 10 = fldR (f b) 10) ∧ (∀ b, kd b = 11 → fldR (f9 b) 16 = fldR (f b) 16) ∧ (∀ b, kd b = 107 → fldR (f9 b) 0 = fldR (f b) 0) ∧ (∀ b, kd b = 107 → fldR (f9 b) 3 = fldR (f b) 3) ∧ (∀ b, kd b = 107 → fldR (f9 b) 11 = fldR (f b) 11)) := by
  obtain ⟨dC, dI⟩ := D
  refine Met.ofW (cc := cX11_image) (maxL := 2) (ret := (some .boolean)) (by decide) rfl ?_
  intro p e s m args below meth c s₁ B hml hv
  obtain ⟨rfl, hP, hK, hD0, hN, hZ⟩ := hv
  have hx := B.exec
  have hb := B.bytes
  have hr := B.returns
  have hU : ∀ w ∈ wsU, w.before _ s = true := fun w h => atoms_spec (ws := wU yX11_image cX11_image 2 (some .boolean)) B.pre w (List.mem_cons_of_mem _ h)
  have hown : s.vm.findClass RX11 = some m.cls := findClass_of_methodNamed B.named
  have hlocks := B.notSynchronized
  have hD := pl_in hD0
  have hS : va_S (fun q => q ∈ L) s.heap s.heap [] := va_S.rf
  have hl := lv_entry ([.ref o0, .int p1]) (n := 2) (Nat.le_of_ble_eq_true rfl)
  rw [lg_entry_eq]
  generalize (lg_sl ([.ref o0, .int p1]) ++ List.replicate (2 - (lg_sl ([.ref o0, .int p1])).length) Slot.unset).toArray = ls at hl ⊢
  have hl : lv_has ls 2 [(0, .ref o0), (1, .int p1)] := hl
  have hfr0 : ∀ b, kd b ≠ 4 → kd b ≠ 5 → kd b ≠ 6 → kd b ≠ 7 → kd b ≠ 9 → kd b ≠ 11 → kd b ≠ 13 → kd b ≠ 104 → kd b ≠ 105 → kd b ≠ 106 → kd b ≠ 107 → kd b ≠ 109 → kd b ≠ 113 → kd b ≠ 500 → kd b ≠ 501 → kd b ≠ 502 → kd b ≠ 503 → kd b ≠ 504 → kd b ≠ 505 → kd b ≠ 506 → kd b ≠ 507 → kd b ≠ 508 → kd b ≠ 509 → kd b ≠ 510 → kd b ≠ 511 → kd b ≠ 514 → kd b ≠ 530 → kd b ≠ 541 → kd b ≠ 542 → kd b ≠ 543 → kd b ≠ 544 → kd b ≠ 545 → kd b ≠ 546 → kd b ≠ 547 → kd b ≠ 548 → kd b ≠ 549 → kd b ≠ 550 → kd b ≠ 551 → kd b ≠ 552 → kd b ≠ 555 → f b = f b := fun _ _ _ _ _ _ _ _ _ _ _ _ _ _ _ _ _ _ _ _ _ _ _ _ _ _ _ _ _ _ _ _ _ _ _ _ _ _ _ _ _ => rfl
  have hrr7_0 : ∀ b, kd b = 7 → fldR (f b) 0 = fldR (f b) 0 := fun _ _ => rfl
  have hrr7_3 : ∀ b, kd b = 7 → fldR (f b) 3 = fldR (f b) 3 := fun _ _ => rfl
  have hrr7_11 : ∀ b, kd b = 7 → fldR (f b) 11 = fldR (f b) 11 := fun _ _ => rfl
  have hrr11_2 : ∀ b, kd b = 11 → fldR (f b) 2 = fldR (f b) 2 := fun _ _ => rfl
  have hrr11_3 : ∀ b, kd b = 11 → fldR (f b) 3 = fldR (f b) 3 := fun _ _ => rfl
  have hrr11_5 : ∀ b, kd b = 11 → fldR (f b) 5 = fldR (f b) 5 := fun _ _ => rfl
  have hrr11_6 : ∀ b, kd b = 11 → fldR (f b) 6 = fldR (f b) 6 := fun _ _ => rfl
  have hrr11_7 : ∀ b, kd b = 11 → fldR (f b) 7 = fldR (f b) 7 := fun _ _ => rfl
  have hrr11_9 : ∀ b, kd b = 11 → fldR (f b) 9 = fldR (f b) 9 := fun _ _ => rfl
  have hrr11_10 : ∀ b, kd b = 11 → fldR (f b) 10 = fldR (f b) 10 := fun _ _ => rfl
  have hrr11_16 : ∀ b, kd b = 11 → fldR (f b) 16 = fldR (f b) 16 := fun _ _ => rfl
  have hrr107_0 : ∀ b, kd b = 107 → fldR (f b) 0 = fldR (f b) 0 := fun _ _ => rfl
  have hrr107_3 : ∀ b, kd b = 107 → fldR (f b) 3 = fldR (f b) 3 := fun _ _ => rfl
  have hrr107_11 : ∀ b, kd b = 107 → fldR (f b) 11 = fldR (f b) 11 := fun _ _ => rfl
  refine lv_iload_n hx hb dX11_image_0 rfl (lv_at hl 1 rfl) ?_
  refine lv_if_eq (tgt := 33) hx hb dX11_image_1 (by decide) (fun c_1 => ?_) (fun c_1 => ?_)
  · skip
    rw [← Int32.toInt_inj, ti_0] at c_1
    refine lv_aload_n hx hb dX11_image_33 rfl (lv_at hl 0 rfl) ?_
    obtain ⟨a_3, v_4, a_5, a_6, a_7, a_8, a_9, a_10, v_11, a_12, a_13, a_14, v_15, v_16, a_17, v_18, a_19, a_20, v_21, hfo_2, ⟨ma_3, ka_3⟩, bv_4, ⟨ma_5, ka_5⟩, ⟨ma_6, ka_6⟩, ⟨ma_7, ka_7⟩, ⟨ma_8, ka_8⟩, ⟨ma_9, ka_9⟩, ⟨ma_10, ka_10⟩, bv_11, ⟨ma_12, ka_12⟩, ⟨ma_13, ka_13⟩, ⟨ma_14, ka_14⟩, bv_15, ⟨ma_17, ka_17⟩, bv_18, ⟨ma_19, ka_19⟩, ⟨ma_20, ka_20⟩⟩ := un_11 (hG _ mo0) ko0
    have bv_16 : ((-2147483648) ≤ v_16.toInt ∧ v_16.toInt ≤ 2147483647) := ⟨i32_lo _, i32_hi _⟩
    have bv_21 : ((-2147483648) ≤ v_21.toInt ∧ v_21.toInt ≤ 2147483647) := ⟨i32_lo _, i32_hi _⟩
    refine tk_getP (D := (dC, dI)) (ci := 11) (v := .int v_11) (C := RX11) (T := TX11) (N := 19) hx hb hU inlX11 hown hK hP mo0 hfo_2 rfl 8 (by decide) (hU _ wd_1472) (fun _ h9 => h9) rfl dX11_image_34 ?_
    refine lv_if_ne (tgt := 42) hx hb dX11_image_37 (by decide) (fun c_22 => ?_) (fun c_22 => ?_)
    · skip
      rw [← Int32.toInt_inj, ti_0] at c_22
      refine lv_aload_n hx hb dX11_image_42 rfl (lv_at hl 0 rfl) ?_
      refine tk_getP (D := (dC, dI)) (ci := 11) (v := .ref a_6) (C := RX11) (T := TX11) (N := 19) hx hb hU inlX11 hown hK hP mo0 hfo_2 rfl 3 (by decide) (hU _ wd_19) (fun _ h9 => h9) rfl dX11_image_43 ?_
      refine lv_aload_n hx hb dX11_image_46 rfl (lv_at hl 0 rfl) ?_
      refine tk_getP (D := (dC, dI)) (ci := 11) (v := .ref a_9) (C := RX11) (T := TX11) (N := 19) hx hb hU inlX11 hown hK hP mo0 hfo_2 rfl 6 (by decide) (hU _ wd_29) (fun _ h9 => h9) rfl dX11_image_47 ?_
      obtain ⟨a_24, v_25, a_26, a_27, a_28, a_29, v_30, a_31, a_32, a_33, a_34, a_35, v_36, a_37, a_38, a_39, hfo_23, ⟨ma_24, ka_24⟩, bv_25, ⟨ma_26, ka_26⟩, ⟨ma_27, ka_27⟩, ⟨ma_28, ka_28⟩, ⟨ma_29, ka_29⟩, bv_30, ⟨ma_31, ka_31⟩, ⟨ma_32, ka_32⟩, ⟨ma_33, ka_33⟩, ⟨ma_34, ka_34⟩, ⟨ma_35, ka_35⟩, bv_36, ⟨ma_37, ka_37⟩, ⟨ma_38, ka_38⟩, ⟨ma_39, ka_39⟩⟩ := un_7 (hG _ ma_6) ka_6
      refine tk_VvP (As := [.ref a_9]) (rest := []) (n := 1) hx hb hml hown hU hN hZ (s_X7_copyFrom_k7_k107 l (dC, dI) cI cL cZ cR cG cH Z kd L f hG a_6 ma_6 ka_6 a_9 ma_9 ka_9) wd_530 wd_531 wd_532 wd_28 wd_533 (by decide +kernel) ⟨Nat.le_of_ble_eq_true rfl, Nat.le_of_ble_eq_true rfl⟩ hK hP hD hS ma_6 hfo_23 7 rfl rfl rfl hl.1 rfl (Nat.le_of_ble_eq_true rfl) dX11_image_50 ⟨Nat.le_of_ble_eq_true rfl, Nat.le_of_ble_eq_true rfl⟩ (fun f_41 H locs hw hP hD hS => ?_)
      obtain ⟨hG, hkc_42, hrc_43, hrc_44, hrc_45⟩ := hw
      have hfo_47 : f_41 o0 = .inr (11, [.ref a_3, .int v_4, .ref a_5, .ref a_6, .ref a_7, .ref a_8, .ref a_9, .ref a_10, .int v_11, .ref a_12, .ref a_13, .ref a_14, .int v_15, .int v_16, .ref a_17, .int v_18, .ref a_19, .ref a_20, .int v_21]) := by rw [hkc_42 o0 (by rw [ko0]; decide) (by rw [ko0]; decide) (by rw [ko0]; decide) (by rw [ko0]; decide) (by rw [ko0]; decide) (by rw [ko0]; decide) (by rw [ko0]; decide) (by rw [ko0]; decide) (by rw [ko0]; decide) (by rw [ko0]; decide) (by rw [ko0]; decide) (by rw [ko0]; decide) (by rw [ko0]; decide) (by rw [ko0]; decide) (by rw [ko0]; decide) (by rw [ko0]; decide) (by rw [ko0]; decide) (by rw [ko0]; decide)]; exact hfo_2
      have hfr0 : ∀ b, kd b ≠ 4 → kd b ≠ 5 → kd b ≠ 6 → kd b ≠ 7 → kd b ≠ 9 → kd b ≠ 11 → kd b ≠ 13 → kd b ≠ 104 → kd b ≠ 105 → kd b ≠ 106 → kd b ≠ 107 → kd b ≠ 109 → kd b ≠ 113 → kd b ≠ 500 → kd b ≠ 501 → kd b ≠ 502 → kd b ≠ 503 → kd b ≠ 504 → kd b ≠ 505 → kd b ≠ 506 → kd b ≠ 507 → kd b ≠ 508 → kd b ≠ 509 → kd b ≠ 510 → kd b ≠ 511 → kd b ≠ 514 → kd b ≠ 530 → kd b ≠ 541 → kd b ≠ 542 → kd b ≠ 543 → kd b ≠ 544 → kd b ≠ 545 → kd b ≠ 546 → kd b ≠ 547 → kd b ≠ 548 → kd b ≠ 549 → kd b ≠ 550 → kd b ≠ 551 → kd b ≠ 552 → kd b ≠ 555 → f_41 b = f b := fun b q4 q5 q6 q7 q9 q11 q13 q104 q105 q106 q107 q109 q113 q500 q501 q502 q503 q504 q505 q506 q507 q508 q509 q510 q511 q514 q530 q541 q542 q543 q544 q545 q546 q547 q548 q549 q550 q551 q552 q555 => (hkc_42 b q4 q5 q7 q9 q13 q500 q501 q502 q503 q504 q505 q506 q507 q508 q509 q510 q511 q514).trans (hfr0 b q4 q5 q6 q7 q9 q11 q13 q104 q105 q106 q107 q109 q113 q500 q501 q502 q503 q504 q505 q506 q507 q508 q509 q510 q511 q514 q530 q541 q542 q543 q544 q545 q546 q547 q548 q549 q550 q551 q552 q555)
      have hrr7_0 : ∀ b, kd b = 7 → fldR (f_41 b) 0 = fldR (f b) 0 := fun b kb => (hrc_43 b kb).trans (hrr7_0 b kb)
      have hrr7_3 : ∀ b, kd b = 7 → fldR (f_41 b) 3 = fldR (f b) 3 := fun b kb => (hrc_44 b kb).trans (hrr7_3 b kb)
      have hrr7_11 : ∀ b, kd b = 7 → fldR (f_41 b) 11 = fldR (f b) 11 := fun b kb => (hrc_45 b kb).trans (hrr7_11 b kb)
      have hrr11_2 : ∀ b, kd b = 11 → fldR (f_41 b) 2 = fldR (f b) 2 := fun b kb => (congrArg (fun x => fldR x 2) (hkc_42 b (by rw [kb]; decide) (by rw [kb]; decide) (by rw [kb]; decide) (by rw [kb]; decide) (by rw [kb]; decide) (by rw [kb]; decide) (by rw [kb]; decide) (by rw [kb]; decide) (by rw [kb]; decide) (by rw [kb]; decide) (by rw [kb]; decide) (by rw [kb]; decide) (by rw [kb]; decide) (by rw [kb]; decide) (by rw [kb]; decide) (by rw [kb]; decide) (by rw [kb]; decide) (by rw [kb]; decide))).trans (hrr11_2 b kb)
      have hrr11_3 : ∀ b, kd b = 11 → fldR (f_41 b) 3 = fldR (f b) 3 := fun b kb => (congrArg (fun x => fldR x 3) (hkc_42 b (by rw [kb]; decide) (by rw [kb]; decide) (by rw [kb]; decide) (by rw [kb]; decide) (by rw [kb]; decide) (by rw [kb]; decide) (by rw [kb]; decide) (by rw [kb]; decide) (by rw [kb]; decide) (by rw [kb]; decide) (by rw [kb]; decide) (by rw [kb]; decide) (by rw [kb]; decide) (by rw [kb]; decide) (by rw [kb]; decide) (by rw [kb]; decide) (by rw [kb]; decide) (by rw [kb]; decide))).trans (hrr11_3 b kb)
      have hrr11_5 : ∀ b, kd b = 11 → fldR (f_41 b) 5 = fldR (f b) 5 := fun b kb => (congrArg (fun x => fldR x 5) (hkc_42 b (by rw [kb]; decide) (by rw [kb]; decide) (by rw [kb]; decide) (by rw [kb]; decide) (by rw [kb]; decide) (by rw [kb]; decide) (by rw [kb]; decide) (by rw [kb]; decide) (by rw [kb]; decide) (by rw [kb]; decide) (by rw [kb]; decide) (by rw [kb]; decide) (by rw [kb]; decide) (by rw [kb]; decide) (by rw [kb]; decide) (by rw [kb]; decide) (by rw [kb]; decide) (by rw [kb]; decide))).trans (hrr11_5 b kb)
      have hrr11_6 : ∀ b, kd b = 11 → fldR (f_41 b) 6 = fldR (f b) 6 := fun b kb => (congrArg (fun x => fldR x 6) (hkc_42 b (by rw [kb]; decide) (by rw [kb]; decide) (by rw [kb]; decide) (by rw [kb]; decide) (by rw [kb]; decide) (by rw [kb]; decide) (by rw [kb]; decide) (by rw [kb]; decide) (by rw [kb]; decide) (by rw [kb]; decide) (by rw [kb]; decide) (by rw [kb]; decide) (by rw [kb]; decide) (by rw [kb]; decide) (by rw [kb]; decide) (by rw [kb]; decide) (by rw [kb]; decide) (by rw [kb]; decide))).trans (hrr11_6 b kb)
      have hrr11_7 : ∀ b, kd b = 11 → fldR (f_41 b) 7 = fldR (f b) 7 := fun b kb => (congrArg (fun x => fldR x 7) (hkc_42 b (by rw [kb]; decide) (by rw [kb]; decide) (by rw [kb]; decide) (by rw [kb]; decide) (by rw [kb]; decide) (by rw [kb]; decide) (by rw [kb]; decide) (by rw [kb]; decide) (by rw [kb]; decide) (by rw [kb]; decide) (by rw [kb]; decide) (by rw [kb]; decide) (by rw [kb]; decide) (by rw [kb]; decide) (by rw [kb]; decide) (by rw [kb]; decide) (by rw [kb]; decide) (by rw [kb]; decide))).trans (hrr11_7 b kb)
      have hrr11_9 : ∀ b, kd b = 11 → fldR (f_41 b) 9 = fldR (f b) 9 := fun b kb => (congrArg (fun x => fldR x 9) (hkc_42 b (by rw [kb]; decide) (by rw [kb]; decide) (by rw [kb]; decide) (by rw [kb]; decide) (by rw [kb]; decide) (by rw [kb]; decide) (by rw [kb]; decide) (by rw [kb]; decide) (by rw [kb]; decide) (by rw [kb]; decide) (by rw [kb]; decide) (by rw [kb]; decide) (by rw [kb]; decide) (by rw [kb]; decide) (by rw [kb]; decide) (by rw [kb]; decide) (by rw [kb]; decide) (by rw [kb]; decide))).trans (hrr11_9 b kb)
      have hrr11_10 : ∀ b, kd b = 11 → fldR (f_41 b) 10 = fldR (f b) 10 := fun b kb => (congrArg (fun x => fldR x 10) (hkc_42 b (by rw [kb]; decide) (by rw [kb]; decide) (by rw [kb]; decide) (by rw [kb]; decide) (by rw [kb]; decide) (by rw [kb]; decide) (by rw [kb]; decide) (by rw [kb]; decide) (by rw [kb]; decide) (by rw [kb]; decide) (by rw [kb]; decide) (by rw [kb]; decide) (by rw [kb]; decide) (by rw [kb]; decide) (by rw [kb]; decide) (by rw [kb]; decide) (by rw [kb]; decide) (by rw [kb]; decide))).trans (hrr11_10 b kb)
      have hrr11_16 : ∀ b, kd b = 11 → fldR (f_41 b) 16 = fldR (f b) 16 := fun b kb => (congrArg (fun x => fldR x 16) (hkc_42 b (by rw [kb]; decide) (by rw [kb]; decide) (by rw [kb]; decide) (by rw [kb]; decide) (by rw [kb]; decide) (by rw [kb]; decide) (by rw [kb]; decide) (by rw [kb]; decide) (by rw [kb]; decide) (by rw [kb]; decide) (by rw [kb]; decide) (by rw [kb]; decide) (by rw [kb]; decide) (by rw [kb]; decide) (by rw [kb]; decide) (by rw [kb]; decide) (by rw [kb]; decide) (by rw [kb]; decide))).trans (hrr11_16 b kb)
      have hrr107_0 : ∀ b, kd b = 107 → fldR (f_41 b) 0 = fldR (f b) 0 := fun b kb => (congrArg (fun x => fldR x 0) (hkc_42 b (by rw [kb]; decide) (by rw [kb]; decide) (by rw [kb]; decide) (by rw [kb]; decide) (by rw [kb]; decide) (by rw [kb]; decide) (by rw [kb]; decide) (by rw [kb]; decide) (by rw [kb]; decide) (by rw [kb]; decide) (by rw [kb]; decide) (by rw [kb]; decide) (by rw [kb]; decide) (by rw [kb]; decide) (by rw [kb]; decide) (by rw [kb]; decide) (by rw [kb]; decide) (by rw [kb]; decide))).trans (hrr107_0 b kb)
      have hrr107_3 : ∀ b, kd b = 107 → fldR (f_41 b) 3 = fldR (f b) 3 := fun b kb => (congrArg (fun x => fldR x 3) (hkc_42 b (by rw [kb]; decide) (by rw [kb]; decide) (by rw [kb]; decide) (by rw [kb]; decide) (by rw [kb]; decide) (by rw [kb]; decide) (by rw [kb]; decide) (by rw [kb]; decide) (by rw [kb]; decide) (by rw [kb]; decide) (by rw [kb]; decide) (by rw [kb]; decide) (by rw [kb]; decide) (by rw [kb]; decide) (by rw [kb]; decide) (by rw [kb]; decide) (by rw [kb]; decide) (by rw [kb]; decide))).trans (hrr107_3 b kb)
      have hrr107_11 : ∀ b, kd b = 107 → fldR (f_41 b) 11 = fldR (f b) 11 := fun b kb => (congrArg (fun x => fldR x 11) (hkc_42 b (by rw [kb]; decide) (by rw [kb]; decide) (by rw [kb]; decide) (by rw [kb]; decide) (by rw [kb]; decide) (by rw [kb]; decide) (by rw [kb]; decide) (by rw [kb]; decide) (by rw [kb]; decide) (by rw [kb]; decide) (by rw [kb]; decide) (by rw [kb]; decide) (by rw [kb]; decide) (by rw [kb]; decide) (by rw [kb]; decide) (by rw [kb]; decide) (by rw [kb]; decide) (by rw [kb]; decide))).trans (hrr107_11 b kb)
      obtain ⟨a_49, v_50, a_51, a_52, a_53, a_54, v_55, a_56, a_57, a_58, a_59, a_60, v_61, a_62, a_63, a_64, hfo_48, ⟨ma_49, ka_49⟩, bv_50, ⟨ma_51, ka_51⟩, ⟨ma_52, ka_52⟩, ⟨ma_53, ka_53⟩, ⟨ma_54, ka_54⟩, bv_55, ⟨ma_56, ka_56⟩, ⟨ma_57, ka_57⟩, ⟨ma_58, ka_58⟩, ⟨ma_59, ka_59⟩, ⟨ma_60, ka_60⟩, bv_61, ⟨ma_62, ka_62⟩, ⟨ma_63, ka_63⟩, ⟨ma_64, ka_64⟩⟩ := un_7 (hG _ ma_6) ka_6
      obtain rfl : a_24 = a_49 := by have hk9 := hrr7_0 a_6 ka_6; rw [hfo_48, hfo_23] at hk9; exact (Option.some.inj hk9).symm
      obtain rfl : a_27 = a_52 := by have hk9 := hrr7_3 a_6 ka_6; rw [hfo_48, hfo_23] at hk9; exact (Option.some.inj hk9).symm
      obtain rfl : a_35 = a_60 := by have hk9 := hrr7_11 a_6 ka_6; rw [hfo_48, hfo_23] at hk9; exact (Option.some.inj hk9).symm
      refine lv_aload_n hx hb dX11_image_53 rfl (lv_at hl 0 rfl) ?_
      refine tk_getP (D := (dC, dI)) (ci := 11) (v := .ref a_8) (C := RX11) (T := TX11) (N := 19) hx hb hU inlX11 hown hK hP mo0 hfo_47 rfl 5 (by decide) (hU _ wd_25) (fun _ h9 => h9) rfl dX11_image_54 ?_
      refine lv_aload_n hx hb dX11_image_57 rfl (lv_at hl 0 rfl) ?_
      refine tk_getP (D := (dC, dI)) (ci := 11) (v := .ref a_10) (C := RX11) (T := TX11) (N := 19) hx hb hU inlX11 hown hK hP mo0 hfo_47 rfl 7 (by decide) (hU _ wd_30) (fun _ h9 => h9) rfl dX11_image_58 ?_
      obtain ⟨v_66, v_67, a_68, a_69, a_70, v_71, a_72, a_73, a_74, hfo_65, bv_67, ⟨ma_68, ka_68⟩, ⟨ma_69, ka_69⟩, ⟨ma_70, ka_70⟩, ⟨ma_72, ka_72⟩, ⟨ma_73, ka_73⟩, ⟨ma_74, ka_74⟩⟩ := un_6 (hG _ ma_8) ka_8
      have bv_66 : ((-2147483648) ≤ v_66.toInt ∧ v_66.toInt ≤ 2147483647) := ⟨i32_lo _, i32_hi _⟩
      have bv_71 : ((-2147483648) ≤ v_71.toInt ∧ v_71.toInt ≤ 2147483647) := ⟨i32_lo _, i32_hi _⟩
      refine tk_VvP (As := [.ref a_10]) (rest := []) (n := 1) hx hb hml hown hU hN hZ (s_X6_copyFrom_k6_k106 l (dC, dI) cI cL cZ cR cG cH Z kd L f_41 hG a_8 ma_8 ka_8 a_10 ma_10 ka_10) wd_1473 wd_1474 wd_1475 wd_24 wd_1476 (by decide +kernel) ⟨Nat.le_of_ble_eq_true rfl, Nat.le_of_ble_eq_true rfl⟩ hK hP hD hS ma_8 hfo_65 6 rfl rfl rfl hl.1 rfl (Nat.le_of_ble_eq_true rfl) dX11_image_61 ⟨Nat.le_of_ble_eq_true rfl, Nat.le_of_ble_eq_true rfl⟩ (fun f_76 H locs hw hP hD hS => ?_)
      obtain ⟨hG, hkc_77, hxp_78⟩ := hw
      have hfo_80 : f_76 o0 = .inr (11, [.ref a_3, .int v_4, .ref a_5, .ref a_6, .ref a_7, .ref a_8, .ref a_9, .ref a_10, .int v_11, .ref a_12, .ref a_13, .ref a_14, .int v_15, .int v_16, .ref a_17, .int v_18, .ref a_19, .ref a_20, .int v_21]) := by rw [hkc_77 o0 (by rw [ko0]; decide) (by rw [ko0]; decide) (by rw [ko0]; decide) (by rw [ko0]; decide) (by rw [ko0]; decide)]; exact hfo_47
      have hfo_81 : f_76 a_6 = .inr (7, [.ref a_24, .int v_50, .ref a_51, .ref a_27, .ref a_53, .ref a_54, .int v_55, .ref a_56, .ref a_57, .ref a_58, .ref a_59, .ref a_35, .int v_61, .ref a_62, .ref a_63, .ref a_64]) := by rw [hkc_77 a_6 (by rw [ka_6]; decide) (by rw [ka_6]; decide) (by rw [ka_6]; decide) (by rw [ka_6]; decide) (by rw [ka_6]; decide)]; exact hfo_48
      have hfr0 : ∀ b, kd b ≠ 4 → kd b ≠ 5 → kd b ≠ 6 → kd b ≠ 7 → kd b ≠ 9 → kd b ≠ 11 → kd b ≠ 13 → kd b ≠ 104 → kd b ≠ 105 → kd b ≠ 106 → kd b ≠ 107 → kd b ≠ 109 → kd b ≠ 113 → kd b ≠ 500 → kd b ≠ 501 → kd b ≠ 502 → kd b ≠ 503 → kd b ≠ 504 → kd b ≠ 505 → kd b ≠ 506 → kd b ≠ 507 → kd b ≠ 508 → kd b ≠ 509 → kd b ≠ 510 → kd b ≠ 511 → kd b ≠ 514 → kd b ≠ 530 → kd b ≠ 541 → kd b ≠ 542 → kd b ≠ 543 → kd b ≠ 544 → kd b ≠ 545 → kd b ≠ 546 → kd b ≠ 547 → kd b ≠ 548 → kd b ≠ 549 → kd b ≠ 550 → kd b ≠ 551 → kd b ≠ 552 → kd b ≠ 555 → f_76 b = f b := fun b q4 q5 q6 q7 q9 q11 q13 q104 q105 q106 q107 q109 q113 q500 q501 q502 q503 q504 q505 q506 q507 q508 q509 q510 q511 q514 q530 q541 q542 q543 q544 q545 q546 q547 q548 q549 q550 q551 q552 q555 => (hkc_77 b q6 q9 q504 q505 q530).trans (hfr0 b q4 q5 q6 q7 q9 q11 q13 q104 q105 q106 q107 q109 q113 q500 q501 q502 q503 q504 q505 q506 q507 q508 q509 q510 q511 q514 q530 q541 q542 q543 q544 q545 q546 q547 q548 q549 q550 q551 q552 q555)
      have hrr7_0 : ∀ b, kd b = 7 → fldR (f_76 b) 0 = fldR (f b) 0 := fun b kb => (congrArg (fun x => fldR x 0) (hkc_77 b (by rw [kb]; decide) (by rw [kb]; decide) (by rw [kb]; decide) (by rw [kb]; decide) (by rw [kb]; decide))).trans (hrr7_0 b kb)
      have hrr7_3 : ∀ b, kd b = 7 → fldR (f_76 b) 3 = fldR (f b) 3 := fun b kb => (congrArg (fun x => fldR x 3) (hkc_77 b (by rw [kb]; decide) (by rw [kb]; decide) (by rw [kb]; decide) (by rw [kb]; decide) (by rw [kb]; decide))).trans (hrr7_3 b kb)
      have hrr7_11 : ∀ b, kd b = 7 → fldR (f_76 b) 11 = fldR (f b) 11 := fun b kb => (congrArg (fun x => fldR x 11) (hkc_77 b (by rw [kb]; decide) (by rw [kb]; decide) (by rw [kb]; decide) (by rw [kb]; decide) (by rw [kb]; decide))).trans (hrr7_11 b kb)
      have hrr11_2 : ∀ b, kd b = 11 → fldR (f_76 b) 2 = fldR (f b) 2 := fun b kb => (congrArg (fun x => fldR x 2) (hkc_77 b (by rw [kb]; decide) (by rw [kb]; decide) (by rw [kb]; decide) (by rw [kb]; decide) (by rw [kb]; decide))).trans (hrr11_2 b kb)
      have hrr11_3 : ∀ b, kd b = 11 → fldR (f_76 b) 3 = fldR (f b) 3 := fun b kb => (congrArg (fun x => fldR x 3) (hkc_77 b (by rw [kb]; decide) (by rw [kb]; decide) (by rw [kb]; decide) (by rw [kb]; decide) (by rw [kb]; decide))).trans (hrr11_3 b kb)
      have hrr11_5 : ∀ b, kd b = 11 → fldR (f_76 b) 5 = fldR (f b) 5 := fun b kb => (congrArg (fun x => fldR x 5) (hkc_77 b (by rw [kb]; decide) (by rw [kb]; decide) (by rw [kb]; decide) (by rw [kb]; decide) (by rw [kb]; decide))).trans (hrr11_5 b kb)
      have hrr11_6 : ∀ b, kd b = 11 → fldR (f_76 b) 6 = fldR (f b) 6 := fun b kb => (congrArg (fun x => fldR x 6) (hkc_77 b (by rw [kb]; decide) (by rw [kb]; decide) (by rw [kb]; decide) (by rw [kb]; decide) (by rw [kb]; decide))).trans (hrr11_6 b kb)
      have hrr11_7 : ∀ b, kd b = 11 → fldR (f_76 b) 7 = fldR (f b) 7 := fun b kb => (congrArg (fun x => fldR x 7) (hkc_77 b (by rw [kb]; decide) (by rw [kb]; decide) (by rw [kb]; decide) (by rw [kb]; decide) (by rw [kb]; decide))).trans (hrr11_7 b kb)
      have hrr11_9 : ∀ b, kd b = 11 → fldR (f_76 b) 9 = fldR (f b) 9 := fun b kb => (congrArg (fun x => fldR x 9) (hkc_77 b (by rw [kb]; decide) (by rw [kb]; decide) (by rw [kb]; decide) (by rw [kb]; decide) (by rw [kb]; decide))).trans (hrr11_9 b kb)
      have hrr11_10 : ∀ b, kd b = 11 → fldR (f_76 b) 10 = fldR (f b) 10 := fun b kb => (congrArg (fun x => fldR x 10) (hkc_77 b (by rw [kb]; decide) (by rw [kb]; decide) (by rw [kb]; decide) (by rw [kb]; decide) (by rw [kb]; decide))).trans (hrr11_10 b kb)
      have hrr11_16 : ∀ b, kd b = 11 → fldR (f_76 b) 16 = fldR (f b) 16 := fun b kb => (congrArg (fun x => fldR x 16) (hkc_77 b (by rw [kb]; decide) (by rw [kb]; decide) (by rw [kb]; decide) (by rw [kb]; decide) (by rw [kb]; decide))).trans (hrr11_16 b kb)
      have hrr107_0 : ∀ b, kd b = 107 → fldR (f_76 b) 0 = fldR (f b) 0 := fun b kb => (congrArg (fun x => fldR x 0) (hkc_77 b (by rw [kb]; decide) (by rw [kb]; decide) (by rw [kb]; decide) (by rw [kb]; decide) (by rw [kb]; decide))).trans (hrr107_0 b kb)
      have hrr107_3 : ∀ b, kd b = 107 → fldR (f_76 b) 3 = fldR (f b) 3 := fun b kb => (congrArg (fun x => fldR x 3) (hkc_77 b (by rw [kb]; decide) (by rw [kb]; decide) (by rw [kb]; decide) (by rw [kb]; decide) (by rw [kb]; decide))).trans (hrr107_3 b kb)
      have hrr107_11 : ∀ b, kd b = 107 → fldR (f_76 b) 11 = fldR (f b) 11 := fun b kb => (congrArg (fun x => fldR x 11) (hkc_77 b (by rw [kb]; decide) (by rw [kb]; decide) (by rw [kb]; decide) (by rw [kb]; decide) (by rw [kb]; decide))).trans (hrr107_11 b kb)
      obtain ⟨v_83, v_84, a_85, a_86, a_87, v_88, a_89, a_90, a_91, hfo_82, bv_84, ⟨ma_85, ka_85⟩, ⟨ma_86, ka_86⟩, ⟨ma_87, ka_87⟩, ⟨ma_89, ka_89⟩, ⟨ma_90, ka_90⟩, ⟨ma_91, ka_91⟩⟩ := un_6 (hG _ ma_8) ka_8
      have bv_83 : ((-2147483648) ≤ v_83.toInt ∧ v_83.toInt ≤ 2147483647) := ⟨i32_lo _, i32_hi _⟩
      have bv_88 : ((-2147483648) ≤ v_88.toInt ∧ v_88.toInt ≤ 2147483647) := ⟨i32_lo _, i32_hi _⟩
      obtain ⟨v_93, v_94, a_95, a_96, a_97, v_98, a_99, a_100, a_101, hfo_92, bv_94, ⟨ma_95, ka_95⟩, ⟨ma_96, ka_96⟩, ⟨ma_97, ka_97⟩, ⟨ma_99, ka_99⟩, ⟨ma_100, ka_100⟩, ⟨ma_101, ka_101⟩⟩ := un_106 (hG _ ma_10) ka_10
      have bv_93 : ((-2147483648) ≤ v_93.toInt ∧ v_93.toInt ≤ 2147483647) := ⟨i32_lo _, i32_hi _⟩
      have bv_98 : ((-2147483648) ≤ v_98.toInt ∧ v_98.toInt ≤ 2147483647) := ⟨i32_lo _, i32_hi _⟩
      obtain rfl : v_93 = v_83 := by have h9 := hxp_78 v_93 (by rw [hfo_92]; rfl); rw [hfo_82] at h9; exact (Option.some.inj h9).symm
      refine lv_aload_n hx hb dX11_image_64 rfl (lv_at hl 0 rfl) ?_
      refine lv_dup hx hb dX11_image_65 rfl ?_
      refine tk_getP (D := (dC, dI)) (ci := 11) (v := .int v_21) (C := RX11) (T := TX11) (N := 19) hx hb hU inlX11 hown hK hP mo0 hfo_80 rfl 18 (by decide) (hU _ wd_236) (fun _ h9 => h9) rfl dX11_image_66 ?_
      refine lv_iconst (v := 1) hx hb dX11_image_69 (by decide) ?_
      refine lv_iadd hx hb dX11_image_70 ?_
      refine lv_topi (fun x_102 ex_102 => ?_)
      have bx_102 : ((-2147483648) ≤ x_102.toInt ∧ x_102.toInt ≤ 2147483647) := ⟨i32_lo _, i32_hi _⟩
      refine tk_putP (D := (dC, dI)) (ci := 11) (v := .int x_102) (ty := .int) (C := RX11) (T := TX11) (N := 19) hx hb hU inlX11 tyX11 tyX11_ok nmX11 hown hK hP hD hS mo0 hfo_80 rfl 18 (by decide) (hU _ wd_236) (fun _ h9 => h9) rfl (by decide +kernel) rfl rfl (Nat.le_of_ble_eq_true rfl) dX11_image_71 (fun H locs hP hD hS => ?_)
      obtain ⟨f_104, ef_104⟩ : ∃ y : Nat → va_E, y = va_up f_76 o0 (.inr (11, [.ref a_3, .int v_4, .ref a_5, .ref a_6, .ref a_7, .ref a_8, .ref a_9, .ref a_10, .int v_11, .ref a_12, .ref a_13, .ref a_14, .int v_15, .int v_16, .ref a_17, .int v_18, .ref a_19, .ref a_20, .int x_102])) := ⟨_, rfl⟩
      have hP : va_P (dC, dI) vwCl (va_pl L f_104) H := by rw [ef_104]; exact hP
      have hD : va_D (fun q => q ∈ L) (va_pl L f_104) := by rw [ef_104]; exact hD
      have hG : GI (okc cI cL cZ cR cG cH L kd) kd L f_104 := by rw [ef_104]; exact hG.set o0 (mk_11 ko0 ⟨a_3, v_4, a_5, a_6, a_7, a_8, a_9, a_10, v_11, a_12, a_13, a_14, v_15, v_16, a_17, v_18, a_19, a_20, x_102, rfl, ⟨ma_3, ka_3⟩, (by constructor <;> omega), ⟨ma_5, ka_5⟩, ⟨ma_6, ka_6⟩, ⟨ma_7, ka_7⟩, ⟨ma_8, ka_8⟩, ⟨ma_9, ka_9⟩, ⟨ma_10, ka_10⟩, (by constructor <;> omega), ⟨ma_12, ka_12⟩, ⟨ma_13, ka_13⟩, ⟨ma_14, ka_14⟩, (by constructor <;> omega), ⟨ma_17, ka_17⟩, (by constructor <;> omega), ⟨ma_19, ka_19⟩, ⟨ma_20, ka_20⟩⟩)
      have hfo_105 : f_104 a_6 = .inr (7, [.ref a_24, .int v_50, .ref a_51, .ref a_27, .ref a_53, .ref a_54, .int v_55, .ref a_56, .ref a_57, .ref a_58, .ref a_59, .ref a_35, .int v_61, .ref a_62, .ref a_63, .ref a_64]) := by rw [ef_104, up_ne (kd_ne ko0 ka_6 (by decide))]; exact hfo_81
      have hfo_106 : f_104 a_8 = .inr (6, [.int v_93, .int v_84, .ref a_85, .ref a_86, .ref a_87, .int v_88, .ref a_89, .ref a_90, .ref a_91]) := by rw [ef_104, up_ne (kd_ne ko0 ka_8 (by decide))]; exact hfo_82
      have hfo_107 : f_104 a_10 = .inr (6, [.int v_93, .int v_94, .ref a_95, .ref a_96, .ref a_97, .int v_98, .ref a_99, .ref a_100, .ref a_101]) := by rw [ef_104, up_ne (kd_ne ko0 ka_10 (by decide))]; exact hfo_92
      have hfr0 : ∀ b, kd b ≠ 4 → kd b ≠ 5 → kd b ≠ 6 → kd b ≠ 7 → kd b ≠ 9 → kd b ≠ 11 → kd b ≠ 13 → kd b ≠ 104 → kd b ≠ 105 → kd b ≠ 106 → kd b ≠ 107 → kd b ≠ 109 → kd b ≠ 113 → kd b ≠ 500 → kd b ≠ 501 → kd b ≠ 502 → kd b ≠ 503 → kd b ≠ 504 → kd b ≠ 505 → kd b ≠ 506 → kd b ≠ 507 → kd b ≠ 508 → kd b ≠ 509 → kd b ≠ 510 → kd b ≠ 511 → kd b ≠ 514 → kd b ≠ 530 → kd b ≠ 541 → kd b ≠ 542 → kd b ≠ 543 → kd b ≠ 544 → kd b ≠ 545 → kd b ≠ 546 → kd b ≠ 547 → kd b ≠ 548 → kd b ≠ 549 → kd b ≠ 550 → kd b ≠ 551 → kd b ≠ 552 → kd b ≠ 555 → f_104 b = f b := fun b q4 q5 q6 q7 q9 q11 q13 q104 q105 q106 q107 q109 q113 q500 q501 q502 q503 q504 q505 q506 q507 q508 q509 q510 q511 q514 q530 q541 q542 q543 q544 q545 q546 q547 q548 q549 q550 q551 q552 q555 => (congrFun ef_104 b).trans ((up_ne (fun e9 => q11 (by rw [e9]; exact ko0))).trans (hfr0 b q4 q5 q6 q7 q9 q11 q13 q104 q105 q106 q107 q109 q113 q500 q501 q502 q503 q504 q505 q506 q507 q508 q509 q510 q511 q514 q530 q541 q542 q543 q544 q545 q546 q547 q548 q549 q550 q551 q552 q555))
      have hrr7_0 : ∀ b, kd b = 7 → fldR (f_104 b) 0 = fldR (f b) 0 := fun b kb => (congrArg (fun x => fldR x 0) ((congrFun ef_104 b).trans (up_ne (kd_ne ko0 kb (by decide))))).trans (hrr7_0 b kb)
      have hrr7_3 : ∀ b, kd b = 7 → fldR (f_104 b) 3 = fldR (f b) 3 := fun b kb => (congrArg (fun x => fldR x 3) ((congrFun ef_104 b).trans (up_ne (kd_ne ko0 kb (by decide))))).trans (hrr7_3 b kb)
      have hrr7_11 : ∀ b, kd b = 7 → fldR (f_104 b) 11 = fldR (f b) 11 := fun b kb => (congrArg (fun x => fldR x 11) ((congrFun ef_104 b).trans (up_ne (kd_ne ko0 kb (by decide))))).trans (hrr7_11 b kb)
      have hrr11_2 : ∀ b, kd b = 11 → fldR (f_104 b) 2 = fldR (f b) 2 := fun b kb => ((congrArg (fun x => fldR x 2) (congrFun ef_104 b)).trans (fr_up (by rw [hfo_80]; rfl) b)).trans (hrr11_2 b kb)
      have hrr11_3 : ∀ b, kd b = 11 → fldR (f_104 b) 3 = fldR (f b) 3 := fun b kb => ((congrArg (fun x => fldR x 3) (congrFun ef_104 b)).trans (fr_up (by rw [hfo_80]; rfl) b)).trans (hrr11_3 b kb)
      have hrr11_5 : ∀ b, kd b = 11 → fldR (f_104 b) 5 = fldR (f b) 5 := fun b kb => ((congrArg (fun x => fldR x 5) (congrFun ef_104 b)).trans (fr_up (by rw [hfo_80]; rfl) b)).trans (hrr11_5 b kb)
      have hrr11_6 : ∀ b, kd b = 11 → fldR (f_104 b) 6 = fldR (f b) 6 := fun b kb => ((congrArg (fun x => fldR x 6) (congrFun ef_104 b)).trans (fr_up (by rw [hfo_80]; rfl) b)).trans (hrr11_6 b kb)
      have hrr11_7 : ∀ b, kd b = 11 → fldR (f_104 b) 7 = fldR (f b) 7 := fun b kb => ((congrArg (fun x => fldR x 7) (congrFun ef_104 b)).trans (fr_up (by rw [hfo_80]; rfl) b)).trans (hrr11_7 b kb)
      have hrr11_9 : ∀ b, kd b = 11 → fldR (f_104 b) 9 = fldR (f b) 9 := fun b kb => ((congrArg (fun x => fldR x 9) (congrFun ef_104 b)).trans (fr_up (by rw [hfo_80]; rfl) b)).trans (hrr11_9 b kb)
      have hrr11_10 : ∀ b, kd b = 11 → fldR (f_104 b) 10 = fldR (f b) 10 := fun b kb => ((congrArg (fun x => fldR x 10) (congrFun ef_104 b)).trans (fr_up (by rw [hfo_80]; rfl) b)).trans (hrr11_10 b kb)
      have hrr11_16 : ∀ b, kd b = 11 → fldR (f_104 b) 16 = fldR (f b) 16 := fun b kb => ((congrArg (fun x => fldR x 16) (congrFun ef_104 b)).trans (fr_up (by rw [hfo_80]; rfl) b)).trans (hrr11_16 b kb)
      have hrr107_0 : ∀ b, kd b = 107 → fldR (f_104 b) 0 = fldR (f b) 0 := fun b kb => (congrArg (fun x => fldR x 0) ((congrFun ef_104 b).trans (up_ne (kd_ne ko0 kb (by decide))))).trans (hrr107_0 b kb)
      have hrr107_3 : ∀ b, kd b = 107 → fldR (f_104 b) 3 = fldR (f b) 3 := fun b kb => (congrArg (fun x => fldR x 3) ((congrFun ef_104 b).trans (up_ne (kd_ne ko0 kb (by decide))))).trans (hrr107_3 b kb)
      have hrr107_11 : ∀ b, kd b = 107 → fldR (f_104 b) 11 = fldR (f b) 11 := fun b kb => (congrArg (fun x => fldR x 11) ((congrFun ef_104 b).trans (up_ne (kd_ne ko0 kb (by decide))))).trans (hrr107_11 b kb)
      have hfo_108 : f_104 o0 = .inr (11, [.ref a_3, .int v_4, .ref a_5, .ref a_6, .ref a_7, .ref a_8, .ref a_9, .ref a_10, .int v_11, .ref a_12, .ref a_13, .ref a_14, .int v_15, .int v_16, .ref a_17, .int v_18, .ref a_19, .ref a_20, .int x_102]) := by rw [ef_104]; exact up_self
      refine lv_iconst (v := 1) hx hb dX11_image_74 (by decide) ?_
      exact W.zret (v := 1) (ty := .boolean) hx hb hr rfl (fun t ht hW => ⟨⟨1, f_104, rfl, ⟨hG, (by decide), hfr0, hrr7_0, hrr7_3, hrr7_11, hrr11_2, hrr11_3, hrr11_5, hrr11_6, hrr11_7, hrr11_9, hrr11_10, hrr11_16, hrr107_0, hrr107_3, hrr107_11⟩, by rw [ht]; exact hP, va_K.moved hW.alike hK, pl_in hD⟩, hS.F ht⟩) hS.2.2 dX11_image_75
    · skip
      rw [← Int32.toInt_inj, ti_0] at c_22
      refine lv_iconst (v := 0) hx hb dX11_image_40 (by decide) ?_
      exact W.zret (v := 0) (ty := .boolean) hx hb hr rfl (fun t ht hW => ⟨⟨0, f, rfl, ⟨hG, (by decide), hfr0, hrr7_0, hrr7_3, hrr7_11, hrr11_2, hrr11_3, hrr11_5, hrr11_6, hrr11_7, hrr11_9, hrr11_10, hrr11_16, hrr107_0, hrr107_3, hrr107_11⟩, by rw [ht]; exact hP, va_K.moved hW.alike hK, pl_in hD⟩, hS.F ht⟩) hS.2.2 dX11_image_41
  · skip
    rw [← Int32.toInt_inj, ti_0] at c_1
    refine lv_aload_n hx hb dX11_image_4 rfl (lv_at hl 0 rfl) ?_
    obtain ⟨a_110, v_111, a_112, a_113, a_114, a_115, a_116, a_117, v_118, a_119, a_120, a_121, v_122, v_123, a_124, v_125, a_126, a_127, v_128, hfo_109, ⟨ma_110, ka_110⟩, bv_111, ⟨ma_112, ka_112⟩, ⟨ma_113, ka_113⟩, ⟨ma_114, ka_114⟩, ⟨ma_115, ka_115⟩, ⟨ma_116, ka_116⟩, ⟨ma_117, ka_117⟩, bv_118, ⟨ma_119, ka_119⟩, ⟨ma_120, ka_120⟩, ⟨ma_121, ka_121⟩, bv_122, ⟨ma_124, ka_124⟩, bv_125, ⟨ma_126, ka_126⟩, ⟨ma_127, ka_127⟩⟩ := un_11 (hG _ mo0) ko0
    have bv_123 : ((-2147483648) ≤ v_123.toInt ∧ v_123.toInt ≤ 2147483647) := ⟨i32_lo _, i32_hi _⟩
    have bv_128 : ((-2147483648) ≤ v_128.toInt ∧ v_128.toInt ≤ 2147483647) := ⟨i32_lo _, i32_hi _⟩
    refine tk_getP (D := (dC, dI)) (ci := 11) (v := .ref a_116) (C := RX11) (T := TX11) (N := 19) hx hb hU inlX11 hown hK hP mo0 hfo_109 rfl 6 (by decide) (hU _ wd_29) (fun _ h9 => h9) rfl dX11_image_5 ?_
    refine lv_aload_n hx hb dX11_image_8 rfl (lv_at hl 0 rfl) ?_
    refine tk_getP (D := (dC, dI)) (ci := 11) (v := .ref a_113) (C := RX11) (T := TX11) (N := 19) hx hb hU inlX11 hown hK hP mo0 hfo_109 rfl 3 (by decide) (hU _ wd_19) (fun _ h9 => h9) rfl dX11_image_9 ?_
    obtain ⟨a_130, v_131, a_132, a_133, a_134, a_135, v_136, a_137, a_138, a_139, a_140, a_141, v_142, a_143, a_144, a_145, hfo_129, ⟨ma_130, ka_130⟩, bv_131, ⟨ma_132, ka_132⟩, ⟨ma_133, ka_133⟩, ⟨ma_134, ka_134⟩, ⟨ma_135, ka_135⟩, bv_136, ⟨ma_137, ka_137⟩, ⟨ma_138, ka_138⟩, ⟨ma_139, ka_139⟩, ⟨ma_140, ka_140⟩, ⟨ma_141, ka_141⟩, bv_142, ⟨ma_143, ka_143⟩, ⟨ma_144, ka_144⟩, ⟨ma_145, ka_145⟩⟩ := un_107 (hG _ ma_116) ka_116
    refine tk_VvP (As := [.ref a_113]) (rest := []) (n := 1) hx hb hml hown hU hN hZ (s_X7_copyFrom_k107_k7 l (dC, dI) cI cL cZ cR cG cH Z kd L f hG a_116 ma_116 ka_116 a_113 ma_113 ka_113) wd_530 wd_531 wd_532 wd_28 wd_533 (by decide +kernel) ⟨Nat.le_of_ble_eq_true rfl, Nat.le_of_ble_eq_true rfl⟩ hK hP hD hS ma_116 hfo_129 7 rfl rfl rfl hl.1 rfl (Nat.le_of_ble_eq_true rfl) dX11_image_12 ⟨Nat.le_of_ble_eq_true rfl, Nat.le_of_ble_eq_true rfl⟩ (fun f_147 H locs hw hP hD hS => ?_)
    obtain ⟨hG, hkc_148, hrc_149, hrc_150, hrc_151⟩ := hw
    have hfo_153 : f_147 o0 = .inr (11, [.ref a_110, .int v_111, .ref a_112, .ref a_113, .ref a_114, .ref a_115, .ref a_116, .ref a_117, .int v_118, .ref a_119, .ref a_120, .ref a_121, .int v_122, .int v_123, .ref a_124, .int v_125, .ref a_126, .ref a_127, .int v_128]) := by rw [hkc_148 o0 (by rw [ko0]; decide) (by rw [ko0]; decide) (by rw [ko0]; decide) (by rw [ko0]; decide) (by rw [ko0]; decide) (by rw [ko0]; decide) (by rw [ko0]; decide) (by rw [ko0]; decide) (by rw [ko0]; decide) (by rw [ko0]; decide) (by rw [ko0]; decide) (by rw [ko0]; decide) (by rw [ko0]; decide) (by rw [ko0]; decide) (by rw [ko0]; decide) (by rw [ko0]; decide) (by rw [ko0]; decide) (by rw [ko0]; decide)]; exact hfo_109
    have hfr0 : ∀ b, kd b ≠ 4 → kd b ≠ 5 → kd b ≠ 6 → kd b ≠ 7 → kd b ≠ 9 → kd b ≠ 11 → kd b ≠ 13 → kd b ≠ 104 → kd b ≠ 105 → kd b ≠ 106 → kd b ≠ 107 → kd b ≠ 109 → kd b ≠ 113 → kd b ≠ 500 → kd b ≠ 501 → kd b ≠ 502 → kd b ≠ 503 → kd b ≠ 504 → kd b ≠ 505 → kd b ≠ 506 → kd b ≠ 507 → kd b ≠ 508 → kd b ≠ 509 → kd b ≠ 510 → kd b ≠ 511 → kd b ≠ 514 → kd b ≠ 530 → kd b ≠ 541 → kd b ≠ 542 → kd b ≠ 543 → kd b ≠ 544 → kd b ≠ 545 → kd b ≠ 546 → kd b ≠ 547 → kd b ≠ 548 → kd b ≠ 549 → kd b ≠ 550 → kd b ≠ 551 → kd b ≠ 552 → kd b ≠ 555 → f_147 b = f b := fun b q4 q5 q6 q7 q9 q11 q13 q104 q105 q106 q107 q109 q113 q500 q501 q502 q503 q504 q505 q506 q507 q508 q509 q510 q511 q514 q530 q541 q542 q543 q544 q545 q546 q547 q548 q549 q550 q551 q552 q555 => (hkc_148 b q104 q105 q107 q109 q113 q541 q542 q543 q544 q545 q546 q547 q548 q549 q550 q551 q552 q555).trans (hfr0 b q4 q5 q6 q7 q9 q11 q13 q104 q105 q106 q107 q109 q113 q500 q501 q502 q503 q504 q505 q506 q507 q508 q509 q510 q511 q514 q530 q541 q542 q543 q544 q545 q546 q547 q548 q549 q550 q551 q552 q555)
    have hrr7_0 : ∀ b, kd b = 7 → fldR (f_147 b) 0 = fldR (f b) 0 := fun b kb => (congrArg (fun x => fldR x 0) (hkc_148 b (by rw [kb]; decide) (by rw [kb]; decide) (by rw [kb]; decide) (by rw [kb]; decide) (by rw [kb]; decide) (by rw [kb]; decide) (by rw [kb]; decide) (by rw [kb]; decide) (by rw [kb]; decide) (by rw [kb]; decide) (by rw [kb]; decide) (by rw [kb]; decide) (by rw [kb]; decide) (by rw [kb]; decide) (by rw [kb]; decide) (by rw [kb]; decide) (by rw [kb]; decide) (by rw [kb]; decide))).trans (hrr7_0 b kb)
    have hrr7_3 : ∀ b, kd b = 7 → fldR (f_147 b) 3 = fldR (f b) 3 := fun b kb => (congrArg (fun x => fldR x 3) (hkc_148 b (by rw [kb]; decide) (by rw [kb]; decide) (by rw [kb]; decide) (by rw [kb]; decide) (by rw [kb]; decide) (by rw [kb]; decide) (by rw [kb]; decide) (by rw [kb]; decide) (by rw [kb]; decide) (by rw [kb]; decide) (by rw [kb]; decide) (by rw [kb]; decide) (by rw [kb]; decide) (by rw [kb]; decide) (by rw [kb]; decide) (by rw [kb]; decide) (by rw [kb]; decide) (by rw [kb]; decide))).trans (hrr7_3 b kb)
    have hrr7_11 : ∀ b, kd b = 7 → fldR (f_147 b) 11 = fldR (f b) 11 := fun b kb => (congrArg (fun x => fldR x 11) (hkc_148 b (by rw [kb]; decide) (by rw [kb]; decide) (by rw [kb]; decide) (by rw [kb]; decide) (by rw [kb]; decide) (by rw [kb]; decide) (by rw [kb]; decide) (by rw [kb]; decide) (by rw [kb]; decide) (by rw [kb]; decide) (by rw [kb]; decide) (by rw [kb]; decide) (by rw [kb]; decide) (by rw [kb]; decide) (by rw [kb]; decide) (by rw [kb]; decide) (by rw [kb]; decide) (by rw [kb]; decide))).trans (hrr7_11 b kb)
    have hrr11_2 : ∀ b, kd b = 11 → fldR (f_147 b) 2 = fldR (f b) 2 := fun b kb => (congrArg (fun x => fldR x 2) (hkc_148 b (by rw [kb]; decide) (by rw [kb]; decide) (by rw [kb]; decide) (by rw [kb]; decide) (by rw [kb]; decide) (by rw [kb]; decide) (by rw [kb]; decide) (by rw [kb]; decide) (by rw [kb]; decide) (by rw [kb]; decide) (by rw [kb]; decide) (by rw [kb]; decide) (by rw [kb]; decide) (by rw [kb]; decide) (by rw [kb]; decide) (by rw [kb]; decide) (by rw [kb]; decide) (by rw [kb]; decide))).trans (hrr11_2 b kb)
    have hrr11_3 : ∀ b, kd b = 11 → fldR (f_147 b) 3 = fldR (f b) 3 := fun b kb => (congrArg (fun x => fldR x 3) (hkc_148 b (by rw [kb]; decide) (by rw [kb]; decide) (by rw [kb]; decide) (by rw [kb]; decide) (by rw [kb]; decide) (by rw [kb]; decide) (by rw [kb]; decide) (by rw [kb]; decide) (by rw [kb]; decide) (by rw [kb]; decide) (by rw [kb]; decide) (by rw [kb]; decide) (by rw [kb]; decide) (by rw [kb]; decide) (by rw [kb]; decide) (by rw [kb]; decide) (by rw [kb]; decide) (by rw [kb]; decide))).trans (hrr11_3 b kb)
    have hrr11_5 : ∀ b, kd b = 11 → fldR (f_147 b) 5 = fldR (f b) 5 := fun b kb => (congrArg (fun x => fldR x 5) (hkc_148 b (by rw [kb]; decide) (by rw [kb]; decide) (by rw [kb]; decide) (by rw [kb]; decide) (by rw [kb]; decide) (by rw [kb]; decide) (by rw [kb]; decide) (by rw [kb]; decide) (by rw [kb]; decide) (by rw [kb]; decide) (by rw [kb]; decide) (by rw [kb]; decide) (by rw [kb]; decide) (by rw [kb]; decide) (by rw [kb]; decide) (by rw [kb]; decide) (by rw [kb]; decide) (by rw [kb]; decide))).trans (hrr11_5 b kb)
    have hrr11_6 : ∀ b, kd b = 11 → fldR (f_147 b) 6 = fldR (f b) 6 := fun b kb => (congrArg (fun x => fldR x 6) (hkc_148 b (by rw [kb]; decide) (by rw [kb]; decide) (by rw [kb]; decide) (by rw [kb]; decide) (by rw [kb]; decide) (by rw [kb]; decide) (by rw [kb]; decide) (by rw [kb]; decide) (by rw [kb]; decide) (by rw [kb]; decide) (by rw [kb]; decide) (by rw [kb]; decide) (by rw [kb]; decide) (by rw [kb]; decide) (by rw [kb]; decide) (by rw [kb]; decide) (by rw [kb]; decide) (by rw [kb]; decide))).trans (hrr11_6 b kb)
    have hrr11_7 : ∀ b, kd b = 11 → fldR (f_147 b) 7 = fldR (f b) 7 := fun b kb => (congrArg (fun x => fldR x 7) (hkc_148 b (by rw [kb]; decide) (by rw [kb]; decide) (by rw [kb]; decide) (by rw [kb]; decide) (by rw [kb]; decide) (by rw [kb]; decide) (by rw [kb]; decide) (by rw [kb]; decide) (by rw [kb]; decide) (by rw [kb]; decide) (by rw [kb]; decide) (by rw [kb]; decide) (by rw [kb]; decide) (by rw [kb]; decide) (by rw [kb]; decide) (by rw [kb]; decide) (by rw [kb]; decide) (by rw [kb]; decide))).trans (hrr11_7 b kb)
    have hrr11_9 : ∀ b, kd b = 11 → fldR (f_147 b) 9 = fldR (f b) 9 := fun b kb => (congrArg (fun x => fldR x 9) (hkc_148 b (by rw [kb]; decide) (by rw [kb]; decide) (by rw [kb]; decide) (by rw [kb]; decide) (by rw [kb]; decide) (by rw [kb]; decide) (by rw [kb]; decide) (by rw [kb]; decide) (by rw [kb]; decide) (by rw [kb]; decide) (by rw [kb]; decide) (by rw [kb]; decide) (by rw [kb]; decide) (by rw [kb]; decide) (by rw [kb]; decide) (by rw [kb]; decide) (by rw [kb]; decide) (by rw [kb]; decide))).trans (hrr11_9 b kb)
    have hrr11_10 : ∀ b, kd b = 11 → fldR (f_147 b) 10 = fldR (f b) 10 := fun b kb => (congrArg (fun x => fldR x 10) (hkc_148 b (by rw [kb]; decide) (by rw [kb]; decide) (by rw [kb]; decide) (by rw [kb]; decide) (by rw [kb]; decide) (by rw [kb]; decide) (by rw [kb]; decide) (by rw [kb]; decide) (by rw [kb]; decide) (by rw [kb]; decide) (by rw [kb]; decide) (by rw [kb]; decide) (by rw [kb]; decide) (by rw [kb]; decide) (by rw [kb]; decide) (by rw [kb]; decide) (by rw [kb]; decide) (by rw [kb]; decide))).trans (hrr11_10 b kb)
    have hrr11_16 : ∀ b, kd b = 11 → fldR (f_147 b) 16 = fldR (f b) 16 := fun b kb => (congrArg (fun x => fldR x 16) (hkc_148 b (by rw [kb]; decide) (by rw [kb]; decide) (by rw [kb]; decide) (by rw [kb]; decide) (by rw [kb]; decide) (by rw [kb]; decide) (by rw [kb]; decide) (by rw [kb]; decide) (by rw [kb]; decide) (by rw [kb]; decide) (by rw [kb]; decide) (by rw [kb]; decide) (by rw [kb]; decide) (by rw [kb]; decide) (by rw [kb]; decide) (by rw [kb]; decide) (by rw [kb]; decide) (by rw [kb]; decide))).trans (hrr11_16 b kb)
    have hrr107_0 : ∀ b, kd b = 107 → fldR (f_147 b) 0 = fldR (f b) 0 := fun b kb => (hrc_149 b kb).trans (hrr107_0 b kb)
    have hrr107_3 : ∀ b, kd b = 107 → fldR (f_147 b) 3 = fldR (f b) 3 := fun b kb => (hrc_150 b kb).trans (hrr107_3 b kb)
    have hrr107_11 : ∀ b, kd b = 107 → fldR (f_147 b) 11 = fldR (f b) 11 := fun b kb => (hrc_151 b kb).trans (hrr107_11 b kb)
    obtain ⟨a_155, v_156, a_157, a_158, a_159, a_160, v_161, a_162, a_163, a_164, a_165, a_166, v_167, a_168, a_169, a_170, hfo_154, ⟨ma_155, ka_155⟩, bv_156, ⟨ma_157, ka_157⟩, ⟨ma_158, ka_158⟩, ⟨ma_159, ka_159⟩, ⟨ma_160, ka_160⟩, bv_161, ⟨ma_162, ka_162⟩, ⟨ma_163, ka_163⟩, ⟨ma_164, ka_164⟩, ⟨ma_165, ka_165⟩, ⟨ma_166, ka_166⟩, bv_167, ⟨ma_168, ka_168⟩, ⟨ma_169, ka_169⟩, ⟨ma_170, ka_170⟩⟩ := un_107 (hG _ ma_116) ka_116
    obtain rfl : a_130 = a_155 := by have hk9 := hrr107_0 a_116 ka_116; rw [hfo_154, hfo_129] at hk9; exact (Option.some.inj hk9).symm
    obtain rfl : a_133 = a_158 := by have hk9 := hrr107_3 a_116 ka_116; rw [hfo_154, hfo_129] at hk9; exact (Option.some.inj hk9).symm
    obtain rfl : a_141 = a_166 := by have hk9 := hrr107_11 a_116 ka_116; rw [hfo_154, hfo_129] at hk9; exact (Option.some.inj hk9).symm
    refine lv_aload_n hx hb dX11_image_15 rfl (lv_at hl 0 rfl) ?_
    refine tk_getP (D := (dC, dI)) (ci := 11) (v := .ref a_117) (C := RX11) (T := TX11) (N := 19) hx hb hU inlX11 hown hK hP mo0 hfo_153 rfl 7 (by decide) (hU _ wd_30) (fun _ h9 => h9) rfl dX11_image_16 ?_
    refine lv_aload_n hx hb dX11_image_19 rfl (lv_at hl 0 rfl) ?_
    refine tk_getP (D := (dC, dI)) (ci := 11) (v := .ref a_115) (C := RX11) (T := TX11) (N := 19) hx hb hU inlX11 hown hK hP mo0 hfo_153 rfl 5 (by decide) (hU _ wd_25) (fun _ h9 => h9) rfl dX11_image_20 ?_
    obtain ⟨v_172, v_173, a_174, a_175, a_176, v_177, a_178, a_179, a_180, hfo_171, bv_173, ⟨ma_174, ka_174⟩, ⟨ma_175, ka_175⟩, ⟨ma_176, ka_176⟩, ⟨ma_178, ka_178⟩, ⟨ma_179, ka_179⟩, ⟨ma_180, ka_180⟩⟩ := un_106 (hG _ ma_117) ka_117
    have bv_172 : ((-2147483648) ≤ v_172.toInt ∧ v_172.toInt ≤ 2147483647) := ⟨i32_lo _, i32_hi _⟩
    have bv_177 : ((-2147483648) ≤ v_177.toInt ∧ v_177.toInt ≤ 2147483647) := ⟨i32_lo _, i32_hi _⟩
    refine tk_VvP (As := [.ref a_115]) (rest := []) (n := 1) hx hb hml hown hU hN hZ (s_X6_copyFrom_k106_k6 l (dC, dI) cI cL cZ cR cG cH Z kd L f_147 hG a_117 ma_117 ka_117 a_115 ma_115 ka_115) wd_1473 wd_1474 wd_1475 wd_24 wd_1476 (by decide +kernel) ⟨Nat.le_of_ble_eq_true rfl, Nat.le_of_ble_eq_true rfl⟩ hK hP hD hS ma_117 hfo_171 6 rfl rfl rfl hl.1 rfl (Nat.le_of_ble_eq_true rfl) dX11_image_23 ⟨Nat.le_of_ble_eq_true rfl, Nat.le_of_ble_eq_true rfl⟩ (fun f_182 H locs hw hP hD hS => ?_)
    obtain ⟨hG, hkc_183, hxp_184⟩ := hw
    have hfo_186 : f_182 o0 = .inr (11, [.ref a_110, .int v_111, .ref a_112, .ref a_113, .ref a_114, .ref a_115, .ref a_116, .ref a_117, .int v_118, .ref a_119, .ref a_120, .ref a_121, .int v_122, .int v_123, .ref a_124, .int v_125, .ref a_126, .ref a_127, .int v_128]) := by rw [hkc_183 o0 (by rw [ko0]; decide) (by rw [ko0]; decide) (by rw [ko0]; decide) (by rw [ko0]; decide) (by rw [ko0]; decide)]; exact hfo_153
    have hfo_187 : f_182 a_116 = .inr (7, [.ref a_130, .int v_156, .ref a_157, .ref a_133, .ref a_159, .ref a_160, .int v_161, .ref a_162, .ref a_163, .ref a_164, .ref a_165, .ref a_141, .int v_167, .ref a_168, .ref a_169, .ref a_170]) := by rw [hkc_183 a_116 (by rw [ka_116]; decide) (by rw [ka_116]; decide) (by rw [ka_116]; decide) (by rw [ka_116]; decide) (by rw [ka_116]; decide)]; exact hfo_154
    have hfr0 : ∀ b, kd b ≠ 4 → kd b ≠ 5 → kd b ≠ 6 → kd b ≠ 7 → kd b ≠ 9 → kd b ≠ 11 → kd b ≠ 13 → kd b ≠ 104 → kd b ≠ 105 → kd b ≠ 106 → kd b ≠ 107 → kd b ≠ 109 → kd b ≠ 113 → kd b ≠ 500 → kd b ≠ 501 → kd b ≠ 502 → kd b ≠ 503 → kd b ≠ 504 → kd b ≠ 505 → kd b ≠ 506 → kd b ≠ 507 → kd b ≠ 508 → kd b ≠ 509 → kd b ≠ 510 → kd b ≠ 511 → kd b ≠ 514 → kd b ≠ 530 → kd b ≠ 541 → kd b ≠ 542 → kd b ≠ 543 → kd b ≠ 544 → kd b ≠ 545 → kd b ≠ 546 → kd b ≠ 547 → kd b ≠ 548 → kd b ≠ 549 → kd b ≠ 550 → kd b ≠ 551 → kd b ≠ 552 → kd b ≠ 555 → f_182 b = f b := fun b q4 q5 q6 q7 q9 q11 q13 q104 q105 q106 q107 q109 q113 q500 q501 q502 q503 q504 q505 q506 q507 q508 q509 q510 q511 q514 q530 q541 q542 q543 q544 q545 q546 q547 q548 q549 q550 q551 q552 q555 => (hkc_183 b q9 q106 q504 q505 q530).trans (hfr0 b q4 q5 q6 q7 q9 q11 q13 q104 q105 q106 q107 q109 q113 q500 q501 q502 q503 q504 q505 q506 q507 q508 q509 q510 q511 q514 q530 q541 q542 q543 q544 q545 q546 q547 q548 q549 q550 q551 q552 q555)
    have hrr7_0 : ∀ b, kd b = 7 → fldR (f_182 b) 0 = fldR (f b) 0 := fun b kb => (congrArg (fun x => fldR x 0) (hkc_183 b (by rw [kb]; decide) (by rw [kb]; decide) (by rw [kb]; decide) (by rw [kb]; decide) (by rw [kb]; decide))).trans (hrr7_0 b kb)
    have hrr7_3 : ∀ b, kd b = 7 → fldR (f_182 b) 3 = fldR (f b) 3 := fun b kb => (congrArg (fun x => fldR x 3) (hkc_183 b (by rw [kb]; decide) (by rw [kb]; decide) (by rw [kb]; decide) (by rw [kb]; decide) (by rw [kb]; decide))).trans (hrr7_3 b kb)
    have hrr7_11 : ∀ b, kd b = 7 → fldR (f_182 b) 11 = fldR (f b) 11 := fun b kb => (congrArg (fun x => fldR x 11) (hkc_183 b (by rw [kb]; decide) (by rw [kb]; decide) (by rw [kb]; decide) (by rw [kb]; decide) (by rw [kb]; decide))).trans (hrr7_11 b kb)
    have hrr11_2 : ∀ b, kd b = 11 → fldR (f_182 b) 2 = fldR (f b) 2 := fun b kb => (congrArg (fun x => fldR x 2) (hkc_183 b (by rw [kb]; decide) (by rw [kb]; decide) (by rw [kb]; decide) (by rw [kb]; decide) (by rw [kb]; decide))).trans (hrr11_2 b kb)
    have hrr11_3 : ∀ b, kd b = 11 → fldR (f_182 b) 3 = fldR (f b) 3 := fun b kb => (congrArg (fun x => fldR x 3) (hkc_183 b (by rw [kb]; decide) (by rw [kb]; decide) (by rw [kb]; decide) (by rw [kb]; decide) (by rw [kb]; decide))).trans (hrr11_3 b kb)
    have hrr11_5 : ∀ b, kd b = 11 → fldR (f_182 b) 5 = fldR (f b) 5 := fun b kb => (congrArg (fun x => fldR x 5) (hkc_183 b (by rw [kb]; decide) (by rw [kb]; decide) (by rw [kb]; decide) (by rw [kb]; decide) (by rw [kb]; decide))).trans (hrr11_5 b kb)
    have hrr11_6 : ∀ b, kd b = 11 → fldR (f_182 b) 6 = fldR (f b) 6 := fun b kb => (congrArg (fun x => fldR x 6) (hkc_183 b (by rw [kb]; decide) (by rw [kb]; decide) (by rw [kb]; decide) (by rw [kb]; decide) (by rw [kb]; decide))).trans (hrr11_6 b kb)
    have hrr11_7 : ∀ b, kd b = 11 → fldR (f_182 b) 7 = fldR (f b) 7 := fun b kb => (congrArg (fun x => fldR x 7) (hkc_183 b (by rw [kb]; decide) (by rw [kb]; decide) (by rw [kb]; decide) (by rw [kb]; decide) (by rw [kb]; decide))).trans (hrr11_7 b kb)
    have hrr11_9 : ∀ b, kd b = 11 → fldR (f_182 b) 9 = fldR (f b) 9 := fun b kb => (congrArg (fun x => fldR x 9) (hkc_183 b (by rw [kb]; decide) (by rw [kb]; decide) (by rw [kb]; decide) (by rw [kb]; decide) (by rw [kb]; decide))).trans (hrr11_9 b kb)
    have hrr11_10 : ∀ b, kd b = 11 → fldR (f_182 b) 10 = fldR (f b) 10 := fun b kb => (congrArg (fun x => fldR x 10) (hkc_183 b (by rw [kb]; decide) (by rw [kb]; decide) (by rw [kb]; decide) (by rw [kb]; decide) (by rw [kb]; decide))).trans (hrr11_10 b kb)
    have hrr11_16 : ∀ b, kd b = 11 → fldR (f_182 b) 16 = fldR (f b) 16 := fun b kb => (congrArg (fun x => fldR x 16) (hkc_183 b (by rw [kb]; decide) (by rw [kb]; decide) (by rw [kb]; decide) (by rw [kb]; decide) (by rw [kb]; decide))).trans (hrr11_16 b kb)
    have hrr107_0 : ∀ b, kd b = 107 → fldR (f_182 b) 0 = fldR (f b) 0 := fun b kb => (congrArg (fun x => fldR x 0) (hkc_183 b (by rw [kb]; decide) (by rw [kb]; decide) (by rw [kb]; decide) (by rw [kb]; decide) (by rw [kb]; decide))).trans (hrr107_0 b kb)
    have hrr107_3 : ∀ b, kd b = 107 → fldR (f_182 b) 3 = fldR (f b) 3 := fun b kb => (congrArg (fun x => fldR x 3) (hkc_183 b (by rw [kb]; decide) (by rw [kb]; decide) (by rw [kb]; decide) (by rw [kb]; decide) (by rw [kb]; decide))).trans (hrr107_3 b kb)
    have hrr107_11 : ∀ b, kd b = 107 → fldR (f_182 b) 11 = fldR (f b) 11 := fun b kb => (congrArg (fun x => fldR x 11) (hkc_183 b (by rw [kb]; decide) (by rw [kb]; decide) (by rw [kb]; decide) (by rw [kb]; decide) (by rw [kb]; decide))).trans (hrr107_11 b kb)
    obtain ⟨v_189, v_190, a_191, a_192, a_193, v_194, a_195, a_196, a_197, hfo_188, bv_190, ⟨ma_191, ka_191⟩, ⟨ma_192, ka_192⟩, ⟨ma_193, ka_193⟩, ⟨ma_195, ka_195⟩, ⟨ma_196, ka_196⟩, ⟨ma_197, ka_197⟩⟩ := un_106 (hG _ ma_117) ka_117
    have bv_189 : ((-2147483648) ≤ v_189.toInt ∧ v_189.toInt ≤ 2147483647) := ⟨i32_lo _, i32_hi _⟩
    have bv_194 : ((-2147483648) ≤ v_194.toInt ∧ v_194.toInt ≤ 2147483647) := ⟨i32_lo _, i32_hi _⟩
    obtain ⟨v_199, v_200, a_201, a_202, a_203, v_204, a_205, a_206, a_207, hfo_198, bv_200, ⟨ma_201, ka_201⟩, ⟨ma_202, ka_202⟩, ⟨ma_203, ka_203⟩, ⟨ma_205, ka_205⟩, ⟨ma_206, ka_206⟩, ⟨ma_207, ka_207⟩⟩ := un_6 (hG _ ma_115) ka_115
    have bv_199 : ((-2147483648) ≤ v_199.toInt ∧ v_199.toInt ≤ 2147483647) := ⟨i32_lo _, i32_hi _⟩
    have bv_204 : ((-2147483648) ≤ v_204.toInt ∧ v_204.toInt ≤ 2147483647) := ⟨i32_lo _, i32_hi _⟩
    obtain rfl : v_199 = v_189 := by have h9 := hxp_184 v_199 (by rw [hfo_198]; rfl); rw [hfo_188] at h9; exact (Option.some.inj h9).symm
    refine lv_aload_n hx hb dX11_image_26 rfl (lv_at hl 0 rfl) ?_
    refine lv_iconst (v := 1) hx hb dX11_image_27 (by decide) ?_
    refine tk_putP (D := (dC, dI)) (ci := 11) (v := .int 1) (ty := .boolean) (C := RX11) (T := TX11) (N := 19) hx hb hU inlX11 tyX11 tyX11_ok nmX11 hown hK hP hD hS mo0 hfo_186 rfl 8 (by decide) (hU _ wd_1472) (fun _ h9 => h9) rfl (by decide +kernel) rfl rfl (Nat.le_of_ble_eq_true rfl) dX11_image_28 (fun H locs hP hD hS => ?_)
    obtain ⟨f_209, ef_209⟩ : ∃ y : Nat → va_E, y = va_up f_182 o0 (.inr (11, [.ref a_110, .int v_111, .ref a_112, .ref a_113, .ref a_114, .ref a_115, .ref a_116, .ref a_117, .int 1, .ref a_119, .ref a_120, .ref a_121, .int v_122, .int v_123, .ref a_124, .int v_125, .ref a_126, .ref a_127, .int v_128])) := ⟨_, rfl⟩
    have hP : va_P (dC, dI) vwCl (va_pl L f_209) H := by rw [ef_209]; exact hP
    have hD : va_D (fun q => q ∈ L) (va_pl L f_209) := by rw [ef_209]; exact hD
    have hG : GI (okc cI cL cZ cR cG cH L kd) kd L f_209 := by rw [ef_209]; exact hG.set o0 (mk_11 ko0 ⟨a_110, v_111, a_112, a_113, a_114, a_115, a_116, a_117, 1, a_119, a_120, a_121, v_122, v_123, a_124, v_125, a_126, a_127, v_128, rfl, ⟨ma_110, ka_110⟩, (by constructor <;> omega), ⟨ma_112, ka_112⟩, ⟨ma_113, ka_113⟩, ⟨ma_114, ka_114⟩, ⟨ma_115, ka_115⟩, ⟨ma_116, ka_116⟩, ⟨ma_117, ka_117⟩, (by decide), ⟨ma_119, ka_119⟩, ⟨ma_120, ka_120⟩, ⟨ma_121, ka_121⟩, (by constructor <;> omega), ⟨ma_124, ka_124⟩, (by constructor <;> omega), ⟨ma_126, ka_126⟩, ⟨ma_127, ka_127⟩⟩)
    have hfo_210 : f_209 a_116 = .inr (7, [.ref a_130, .int v_156, .ref a_157, .ref a_133, .ref a_159, .ref a_160, .int v_161, .ref a_162, .ref a_163, .ref a_164, .ref a_165, .ref a_141, .int v_167, .ref a_168, .ref a_169, .ref a_170]) := by rw [ef_209, up_ne (kd_ne ko0 ka_116 (by decide))]; exact hfo_187
    have hfo_211 : f_209 a_117 = .inr (6, [.int v_199, .int v_190, .ref a_191, .ref a_192, .ref a_193, .int v_194, .ref a_195, .ref a_196, .ref a_197]) := by rw [ef_209, up_ne (kd_ne ko0 ka_117 (by decide))]; exact hfo_188
    have hfo_212 : f_209 a_115 = .inr (6, [.int v_199, .int v_200, .ref a_201, .ref a_202, .ref a_203, .int v_204, .ref a_205, .ref a_206, .ref a_207]) := by rw [ef_209, up_ne (kd_ne ko0 ka_115 (by decide))]; exact hfo_198
    have hfr0 : ∀ b, kd b ≠ 4 → kd b ≠ 5 → kd b ≠ 6 → kd b ≠ 7 → kd b ≠ 9 → kd b ≠ 11 → kd b ≠ 13 → kd b ≠ 104 → kd b ≠ 105 → kd b ≠ 106 → kd b ≠ 107 → kd b ≠ 109 → kd b ≠ 113 → kd b ≠ 500 → kd b ≠ 501 → kd b ≠ 502 → kd b ≠ 503 → kd b ≠ 504 → kd b ≠ 505 → kd b ≠ 506 → kd b ≠ 507 → kd b ≠ 508 → kd b ≠ 509 → kd b ≠ 510 → kd b ≠ 511 → kd b ≠ 514 → kd b ≠ 530 → kd b ≠ 541 → kd b ≠ 542 → kd b ≠ 543 → kd b ≠ 544 → kd b ≠ 545 → kd b ≠ 546 → kd b ≠ 547 → kd b ≠ 548 → kd b ≠ 549 → kd b ≠ 550 → kd b ≠ 551 → kd b ≠ 552 → kd b ≠ 555 → f_209 b = f b := fun b q4 q5 q6 q7 q9 q11 q13 q104 q105 q106 q107 q109 q113 q500 q501 q502 q503 q504 q505 q506 q507 q508 q509 q510 q511 q514 q530 q541 q542 q543 q544 q545 q546 q547 q548 q549 q550 q551 q552 q555 => (congrFun ef_209 b).trans ((up_ne (fun e9 => q11 (by rw [e9]; exact ko0))).trans (hfr0 b q4 q5 q6 q7 q9 q11 q13 q104 q105 q106 q107 q109 q113 q500 q501 q502 q503 q504 q505 q506 q507 q508 q509 q510 q511 q514 q530 q541 q542 q543 q544 q545 q546 q547 q548 q549 q550 q551 q552 q555))
    have hrr7_0 : ∀ b, kd b = 7 → fldR (f_209 b) 0 = fldR (f b) 0 := fun b kb => (congrArg (fun x => fldR x 0) ((congrFun ef_209 b).trans (up_ne (kd_ne ko0 kb (by decide))))).trans (hrr7_0 b kb)
    have hrr7_3 : ∀ b, kd b = 7 → fldR (f_209 b) 3 = fldR (f b) 3 := fun b kb => (congrArg (fun x => fldR x 3) ((congrFun ef_209 b).trans (up_ne (kd_ne ko0 kb (by decide))))).trans (hrr7_3 b kb)
    have hrr7_11 : ∀ b, kd b = 7 → fldR (f_209 b) 11 = fldR (f b) 11 := fun b kb => (congrArg (fun x => fldR x 11) ((congrFun ef_209 b).trans (up_ne (kd_ne ko0 kb (by decide))))).trans (hrr7_11 b kb)
    have hrr11_2 : ∀ b, kd b = 11 → fldR (f_209 b) 2 = fldR (f b) 2 := fun b kb => ((congrArg (fun x => fldR x 2) (congrFun ef_209 b)).trans (fr_up (by rw [hfo_186]; rfl) b)).trans (hrr11_2 b kb)
    have hrr11_3 : ∀ b, kd b = 11 → fldR (f_209 b) 3 = fldR (f b) 3 := fun b kb => ((congrArg (fun x => fldR x 3) (congrFun ef_209 b)).trans (fr_up (by rw [hfo_186]; rfl) b)).trans (hrr11_3 b kb)
    have hrr11_5 : ∀ b, kd b = 11 → fldR (f_209 b) 5 = fldR (f b) 5 := fun b kb => ((congrArg (fun x => fldR x 5) (congrFun ef_209 b)).trans (fr_up (by rw [hfo_186]; rfl) b)).trans (hrr11_5 b kb)
    have hrr11_6 : ∀ b, kd b = 11 → fldR (f_209 b) 6 = fldR (f b) 6 := fun b kb => ((congrArg (fun x => fldR x 6) (congrFun ef_209 b)).trans (fr_up (by rw [hfo_186]; rfl) b)).trans (hrr11_6 b kb)
    have hrr11_7 : ∀ b, kd b = 11 → fldR (f_209 b) 7 = fldR (f b) 7 := fun b kb => ((congrArg (fun x => fldR x 7) (congrFun ef_209 b)).trans (fr_up (by rw [hfo_186]; rfl) b)).trans (hrr11_7 b kb)
    have hrr11_9 : ∀ b, kd b = 11 → fldR (f_209 b) 9 = fldR (f b) 9 := fun b kb => ((congrArg (fun x => fldR x 9) (congrFun ef_209 b)).trans (fr_up (by rw [hfo_186]; rfl) b)).trans (hrr11_9 b kb)
    have hrr11_10 : ∀ b, kd b = 11 → fldR (f_209 b) 10 = fldR (f b) 10 := fun b kb => ((congrArg (fun x => fldR x 10) (congrFun ef_209 b)).trans (fr_up (by rw [hfo_186]; rfl) b)).trans (hrr11_10 b kb)
    have hrr11_16 : ∀ b, kd b = 11 → fldR (f_209 b) 16 = fldR (f b) 16 := fun b kb => ((congrArg (fun x => fldR x 16) (congrFun ef_209 b)).trans (fr_up (by rw [hfo_186]; rfl) b)).trans (hrr11_16 b kb)
    have hrr107_0 : ∀ b, kd b = 107 → fldR (f_209 b) 0 = fldR (f b) 0 := fun b kb => (congrArg (fun x => fldR x 0) ((congrFun ef_209 b).trans (up_ne (kd_ne ko0 kb (by decide))))).trans (hrr107_0 b kb)
    have hrr107_3 : ∀ b, kd b = 107 → fldR (f_209 b) 3 = fldR (f b) 3 := fun b kb => (congrArg (fun x => fldR x 3) ((congrFun ef_209 b).trans (up_ne (kd_ne ko0 kb (by decide))))).trans (hrr107_3 b kb)
    have hrr107_11 : ∀ b, kd b = 107 → fldR (f_209 b) 11 = fldR (f b) 11 := fun b kb => (congrArg (fun x => fldR x 11) ((congrFun ef_209 b).trans (up_ne (kd_ne ko0 kb (by decide))))).trans (hrr107_11 b kb)
    have hfo_213 : f_209 o0 = .inr (11, [.ref a_110, .int v_111, .ref a_112, .ref a_113, .ref a_114, .ref a_115, .ref a_116, .ref a_117, .int 1, .ref a_119, .ref a_120, .ref a_121, .int v_122, .int v_123, .ref a_124, .int v_125, .ref a_126, .ref a_127, .int v_128]) := by rw [ef_209]; exact up_self
    refine lv_iconst (v := 1) hx hb dX11_image_31 (by decide) ?_
    exact W.zret (v := 1) (ty := .boolean) hx hb hr rfl (fun t ht hW => ⟨⟨1, f_209, rfl, ⟨hG, (by decide), hfr0, hrr7_0, hrr7_3, hrr7_11, hrr11_2, hrr11_3, hrr11_5, hrr11_6, hrr11_7, hrr11_9, hrr11_10, hrr11_16, hrr107_0, hrr107_3, hrr107_11⟩, by rw [ht]; exact hP, va_K.moved hW.alike hK, pl_in hD⟩, hS.F ht⟩) hS.2.2 dX11_image_32
