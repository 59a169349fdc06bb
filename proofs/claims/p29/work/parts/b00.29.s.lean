set_option maxHeartbeats 8000000 in
set_option maxRecDepth 100000 in
theorem s_X11_feed_k11 (l : Launch) (D : va_G) (cI cL cZ cR cG cH : ClassId) (Z : zT) (kd : Nat → Nat) (L : List Nat) (f : Nat → va_E) (hG : GI (okc cI cL cZ cR cG cH L kd) kd L f) (o0 : Nat) (mo0 : o0 ∈ L) (ko0 : kd o0 = 11) (p1 : Int32) (p2 : Int32) (p3 : Int32) (p4 : Int32) (p5 : Int32) : mPI l D cI cL cZ cR cG cH Z yX11_feed cX11_feed 6 (some .int) 1 22 [.ref o0, .int p1, .int p2, .int p3, .int p4, .int p5] L f (fun (r : Int32) (f9 : Nat → va_E) => GI (okc cI cL cZ cR cG cH L kd) kd L f9 ∧ ((-1) ≤ r.toInt ∧ r.toInt ≤ 600) ∧ (∀ b, kd b ≠ 11 → kd b ≠ 533 → f9 b = f b) ∧ (∀ b, kd b = 11 → fldI (f9 b) 8 = fldI (f b) 8) ∧ (∀ b, kd b = 11 → fldR (f9 b) 2 = fldR (f b) 2) ∧ (∀ b, kd b = 11 → fldR (f9 b) 3 = fldR (f b) 3) ∧ (∀ b, kd b = 11 → fldR (f9 b) 5 = fldR (f b) 5) ∧ (∀ b, kd b = 11 → fldR (f9 b) 6 = fldR (f b) 6) ∧ (∀ b, kd b = 11 → fldR (f9 b) 7 = fldR (f b) 7) ∧ (∀ b, kd b = 11 → fldR (f9 b) 9 = fldR (f b) 9) ∧ (∀ b, kd b = 11 → fldR (f9 b) 10 = fldR (f b) 10) ∧ (∀ b, kd b = 11 → fldR (f9 b) 16 = fldR (f b) 16) ∧ (∀ (w1 z1 : Int32), fldI (f o0) 1 = some w1 → fldI (f9 o0) 1 = some z1 → (w1.toInt + 20 ≤ 600 ∧ r.toInt = w1.toInt + 20 ∧ z1.toInt = w1.toInt + 20) ∨ (600 < w1.toInt + 20 ∧ r.toInt = -1 ∧ z1.toInt = w1.toInt))) := by
  obtain ⟨dC, dI⟩ := D
  refine Met.ofW (cc := cX11_feed) (maxL := 6) (ret := (some .int)) (by decide) rfl ?_
  intro p e s m args below meth c s₁ B hml hv
  obtain ⟨rfl, hP, hK, hD0, hN, hZ⟩ := hv
  have hx := B.exec
  have hb := B.bytes
  have hr := B.returns
  have hU : ∀ w ∈ wsU, w.before _ s = true := fun w h => atoms_spec (ws := wU yX11_feed cX11_feed 6 (some .int)) B.pre w (List.mem_cons_of_mem _ h)
  have hown : s.vm.findClass RX11 = some m.cls := findClass_of_methodNamed B.named
  have hlocks := B.notSynchronized
  have hD := pl_in hD0
  have hS : va_S (fun q => q ∈ L) s.heap s.heap [] := va_S.rf
  have hl := lv_entry ([.ref o0, .int p1, .int p2, .int p3, .int p4, .int p5]) (n := 6) (Nat.le_of_ble_eq_true rfl)
  rw [lg_entry_eq]
  generalize (lg_sl ([.ref o0, .int p1, .int p2, .int p3, .int p4, .int p5]) ++ List.replicate (6 - (lg_sl ([.ref o0, .int p1, .int p2, .int p3, .int p4, .int p5])).length) Slot.unset).toArray = ls at hl ⊢
  have hl : lv_has ls 6 [(0, .ref o0), (1, .int p1), (2, .int p2), (3, .int p3), (4, .int p4), (5, .int p5)] := hl
  have bp1 : ((-2147483648) ≤ p1.toInt ∧ p1.toInt ≤ 2147483647) := ⟨i32_lo _, i32_hi _⟩
  have bp2 : ((-2147483648) ≤ p2.toInt ∧ p2.toInt ≤ 2147483647) := ⟨i32_lo _, i32_hi _⟩
  have bp3 : ((-2147483648) ≤ p3.toInt ∧ p3.toInt ≤ 2147483647) := ⟨i32_lo _, i32_hi _⟩
  have bp4 : ((-2147483648) ≤ p4.toInt ∧ p4.toInt ≤ 2147483647) := ⟨i32_lo _, i32_hi _⟩
  have bp5 : ((-2147483648) ≤ p5.toInt ∧ p5.toInt ≤ 2147483647) := ⟨i32_lo _, i32_hi _⟩
  have hfr0 : ∀ b, kd b ≠ 11 → kd b ≠ 533 → f b = f b := fun _ _ _ => rfl
  have hfr11_8 : ∀ b, kd b = 11 → fldI (f b) 8 = fldI (f b) 8 := fun _ _ => rfl
  have hrr11_2 : ∀ b, kd b = 11 → fldR (f b) 2 = fldR (f b) 2 := fun _ _ => rfl
  have hrr11_3 : ∀ b, kd b = 11 → fldR (f b) 3 = fldR (f b) 3 := fun _ _ => rfl
  have hrr11_5 : ∀ b, kd b = 11 → fldR (f b) 5 = fldR (f b) 5 := fun _ _ => rfl
  have hrr11_6 : ∀ b, kd b = 11 → fldR (f b) 6 = fldR (f b) 6 := fun _ _ => rfl
  have hrr11_7 : ∀ b, kd b = 11 → fldR (f b) 7 = fldR (f b) 7 := fun _ _ => rfl
  have hrr11_9 : ∀ b, kd b = 11 → fldR (f b) 9 = fldR (f b) 9 := fun _ _ => rfl
  have hrr11_10 : ∀ b, kd b = 11 → fldR (f b) 10 = fldR (f b) 10 := fun _ _ => rfl
  have hrr11_16 : ∀ b, kd b = 11 → fldR (f b) 16 = fldR (f b) 16 := fun _ _ => rfl
  obtain ⟨a_2, v_3, a_4, a_5, a_6, a_7, a_8, a_9, v_10, a_11, a_12, a_13, v_14, v_15, a_16, v_17, a_18, a_19, v_20, hfo_1, ⟨ma_2, ka_2⟩, bv_3, ⟨ma_4, ka_4⟩, ⟨ma_5, ka_5⟩, ⟨ma_6, ka_6⟩, ⟨ma_7, ka_7⟩, ⟨ma_8, ka_8⟩, ⟨ma_9, ka_9⟩, bv_10, ⟨ma_11, ka_11⟩, ⟨ma_12, ka_12⟩, ⟨ma_13, ka_13⟩, bv_14, ⟨ma_16, ka_16⟩, bv_17, ⟨ma_18, ka_18⟩, ⟨ma_19, ka_19⟩⟩ := un_11 (hG _ mo0) ko0
  have bv_15 : ((-2147483648) ≤ v_15.toInt ∧ v_15.toInt ≤ 2147483647) := ⟨i32_lo _, i32_hi _⟩
  have bv_20 : ((-2147483648) ≤ v_20.toInt ∧ v_20.toInt ≤ 2147483647) := ⟨i32_lo _, i32_hi _⟩
  refine lv_aload_n hx hb dX11_feed_0 rfl (lv_at hl 0 rfl) ?_
  refine tk_getP (D := (dC, dI)) (ci := 11) (v := .int v_3) (C := RX11) (T := TX11) (N := 19) hx hb hU inlX11 hown hK hP mo0 hfo_1 rfl 1 (by decide) (hU _ wd_209) (fun _ h9 => h9) rfl dX11_feed_1 ?_
  refine lv_bipush (v := 20) hx hb dX11_feed_4 (by decide) ?_
  refine lv_iadd hx hb dX11_feed_6 ?_
  refine lv_topi (fun x_21 ex_21 => ?_)
  have hx_21 : x_21.toInt = v_3.toInt + 20 := by rw [ex_21, ad_I (by rw [ti_20]; omega) (by rw [ti_20]; omega), ti_20]
  have bx_21 : (20 ≤ x_21.toInt ∧ x_21.toInt ≤ 620) := by constructor <;> omega
  refine lv_sipush (v := 600) hx hb dX11_feed_7 (by decide) ?_
  refine lv_icmp_le (tgt := 15) hx hb dX11_feed_10 (by decide) (fun c_22 => ?_) (fun c_22 => ?_)
  · skip
    rw [Int32.le_iff_toInt_le, ti_600] at c_22
    refine lv_aload_n hx hb dX11_feed_15 rfl (lv_at hl 0 rfl) ?_
    refine lv_iload_n hx hb dX11_feed_16 rfl (lv_at hl 1 rfl) ?_
    refine tk_VvP (As := [.int p1]) (rest := []) (n := 1) hx hb hml hown hU hN hZ (s_X11_putNumber_k11 l (dC, dI) cI cL cZ cR cG cH Z kd L f hG o0 mo0 ko0 p1 (by intro w1 e1; rw [hfo_1] at e1; obtain rfl := Option.some.inj e1; omega)) wd_210 wd_211 wd_212 wd_2 wd_213 (by decide +kernel) ⟨Nat.le_of_ble_eq_true rfl, Nat.le_of_ble_eq_true rfl⟩ hK hP hD hS mo0 hfo_1 11 rfl rfl rfl hl.1 rfl (Nat.le_of_ble_eq_true rfl) dX11_feed_17 ⟨Nat.le_of_ble_eq_true rfl, Nat.le_of_ble_eq_true rfl⟩ (fun f_24 H locs hw hP hD hS => ?_)
    obtain ⟨hG, hkc_25, hfc_26, hrc_27, hrc_28, hrc_29, hrc_30, hrc_31, hrc_32, hrc_33, hrc_34, hpost_35⟩ := hw
    have hfr0 : ∀ b, kd b ≠ 11 → kd b ≠ 533 → f_24 b = f b := fun b q11 q533 => (hkc_25 b q11 q533).trans (hfr0 b q11 q533)
    have hfr11_8 : ∀ b, kd b = 11 → fldI (f_24 b) 8 = fldI (f b) 8 := fun b kb => (hfc_26 b kb).trans (hfr11_8 b kb)
    have hrr11_2 : ∀ b, kd b = 11 → fldR (f_24 b) 2 = fldR (f b) 2 := fun b kb => (hrc_27 b kb).trans (hrr11_2 b kb)
    have hrr11_3 : ∀ b, kd b = 11 → fldR (f_24 b) 3 = fldR (f b) 3 := fun b kb => (hrc_28 b kb).trans (hrr11_3 b kb)
    have hrr11_5 : ∀ b, kd b = 11 → fldR (f_24 b) 5 = fldR (f b) 5 := fun b kb => (hrc_29 b kb).trans (hrr11_5 b kb)
    have hrr11_6 : ∀ b, kd b = 11 → fldR (f_24 b) 6 = fldR (f b) 6 := fun b kb => (hrc_30 b kb).trans (hrr11_6 b kb)
    have hrr11_7 : ∀ b, kd b = 11 → fldR (f_24 b) 7 = fldR (f b) 7 := fun b kb => (hrc_31 b kb).trans (hrr11_7 b kb)
    have hrr11_9 : ∀ b, kd b = 11 → fldR (f_24 b) 9 = fldR (f b) 9 := fun b kb => (hrc_32 b kb).trans (hrr11_9 b kb)
    have hrr11_10 : ∀ b, kd b = 11 → fldR (f_24 b) 10 = fldR (f b) 10 := fun b kb => (hrc_33 b kb).trans (hrr11_10 b kb)
    have hrr11_16 : ∀ b, kd b = 11 → fldR (f_24 b) 16 = fldR (f b) 16 := fun b kb => (hrc_34 b kb).trans (hrr11_16 b kb)
    obtain ⟨a_38, v_39, a_40, a_41, a_42, a_43, a_44, a_45, v_46, a_47, a_48, a_49, v_50, v_51, a_52, v_53, a_54, a_55, v_56, hfo_37, ⟨ma_38, ka_38⟩, bv_39, ⟨ma_40, ka_40⟩, ⟨ma_41, ka_41⟩, ⟨ma_42, ka_42⟩, ⟨ma_43, ka_43⟩, ⟨ma_44, ka_44⟩, ⟨ma_45, ka_45⟩, bv_46, ⟨ma_47, ka_47⟩, ⟨ma_48, ka_48⟩, ⟨ma_49, ka_49⟩, bv_50, ⟨ma_52, ka_52⟩, bv_53, ⟨ma_54, ka_54⟩, ⟨ma_55, ka_55⟩⟩ := un_11 (hG _ mo0) ko0
    have bv_51 : ((-2147483648) ≤ v_51.toInt ∧ v_51.toInt ≤ 2147483647) := ⟨i32_lo _, i32_hi _⟩
    have bv_56 : ((-2147483648) ≤ v_56.toInt ∧ v_56.toInt ≤ 2147483647) := ⟨i32_lo _, i32_hi _⟩
    obtain rfl : a_4 = a_40 := by have hk9 := hrr11_2 o0 ko0; rw [hfo_37, hfo_1] at hk9; exact (Option.some.inj hk9).symm
    obtain rfl : a_5 = a_41 := by have hk9 := hrr11_3 o0 ko0; rw [hfo_37, hfo_1] at hk9; exact (Option.some.inj hk9).symm
    obtain rfl : a_7 = a_43 := by have hk9 := hrr11_5 o0 ko0; rw [hfo_37, hfo_1] at hk9; exact (Option.some.inj hk9).symm
    obtain rfl : a_8 = a_44 := by have hk9 := hrr11_6 o0 ko0; rw [hfo_37, hfo_1] at hk9; exact (Option.some.inj hk9).symm
    obtain rfl : a_9 = a_45 := by have hk9 := hrr11_7 o0 ko0; rw [hfo_37, hfo_1] at hk9; exact (Option.some.inj hk9).symm
    obtain rfl : a_11 = a_47 := by have hk9 := hrr11_9 o0 ko0; rw [hfo_37, hfo_1] at hk9; exact (Option.some.inj hk9).symm
    obtain rfl : a_12 = a_48 := by have hk9 := hrr11_10 o0 ko0; rw [hfo_37, hfo_1] at hk9; exact (Option.some.inj hk9).symm
    obtain rfl : a_18 = a_54 := by have hk9 := hrr11_16 o0 ko0; rw [hfo_37, hfo_1] at hk9; exact (Option.some.inj hk9).symm
    obtain rfl : v_10 = v_46 := by have hk9 := hfc_26 o0 ko0; rw [hfo_37, hfo_1] at hk9; exact (Option.some.inj hk9).symm
    have hqhpost_35 := hpost_35 v_3 v_39 (by rw [hfo_1]; rfl) (by rw [hfo_37]; rfl)
    refine lv_aload_n hx hb dX11_feed_20 rfl (lv_at hl 0 rfl) ?_
    refine lv_iload_n hx hb dX11_feed_21 rfl (lv_at hl 2 rfl) ?_
    refine tk_VvP (As := [.int p2]) (rest := []) (n := 1) hx hb hml hown hU hN hZ (s_X11_putNumber_k11 l (dC, dI) cI cL cZ cR cG cH Z kd L f_24 hG o0 mo0 ko0 p2 (by intro w1 e1; rw [hfo_37] at e1; obtain rfl := Option.some.inj e1; omega)) wd_210 wd_211 wd_212 wd_2 wd_213 (by decide +kernel) ⟨Nat.le_of_ble_eq_true rfl, Nat.le_of_ble_eq_true rfl⟩ hK hP hD hS mo0 hfo_37 11 rfl rfl rfl hl.1 rfl (Nat.le_of_ble_eq_true rfl) dX11_feed_22 ⟨Nat.le_of_ble_eq_true rfl, Nat.le_of_ble_eq_true rfl⟩ (fun f_58 H locs hw hP hD hS => ?_)
    obtain ⟨hG, hkc_59, hfc_60, hrc_61, hrc_62, hrc_63, hrc_64, hrc_65, hrc_66, hrc_67, hrc_68, hpost_69⟩ := hw
    have hfr0 : ∀ b, kd b ≠ 11 → kd b ≠ 533 → f_58 b = f b := fun b q11 q533 => (hkc_59 b q11 q533).trans (hfr0 b q11 q533)
    have hfr11_8 : ∀ b, kd b = 11 → fldI (f_58 b) 8 = fldI (f b) 8 := fun b kb => (hfc_60 b kb).trans (hfr11_8 b kb)
    have hrr11_2 : ∀ b, kd b = 11 → fldR (f_58 b) 2 = fldR (f b) 2 := fun b kb => (hrc_61 b kb).trans (hrr11_2 b kb)
    have hrr11_3 : ∀ b, kd b = 11 → fldR (f_58 b) 3 = fldR (f b) 3 := fun b kb => (hrc_62 b kb).trans (hrr11_3 b kb)
    have hrr11_5 : ∀ b, kd b = 11 → fldR (f_58 b) 5 = fldR (f b) 5 := fun b kb => (hrc_63 b kb).trans (hrr11_5 b kb)
    have hrr11_6 : ∀ b, kd b = 11 → fldR (f_58 b) 6 = fldR (f b) 6 := fun b kb => (hrc_64 b kb).trans (hrr11_6 b kb)
    have hrr11_7 : ∀ b, kd b = 11 → fldR (f_58 b) 7 = fldR (f b) 7 := fun b kb => (hrc_65 b kb).trans (hrr11_7 b kb)
    have hrr11_9 : ∀ b, kd b = 11 → fldR (f_58 b) 9 = fldR (f b) 9 := fun b kb => (hrc_66 b kb).trans (hrr11_9 b kb)
    have hrr11_10 : ∀ b, kd b = 11 → fldR (f_58 b) 10 = fldR (f b) 10 := fun b kb => (hrc_67 b kb).trans (hrr11_10 b kb)
    have hrr11_16 : ∀ b, kd b = 11 → fldR (f_58 b) 16 = fldR (f b) 16 := fun b kb => (hrc_68 b kb).trans (hrr11_16 b kb)
    obtain ⟨a_72, v_73, a_74, a_75, a_76, a_77, a_78, a_79, v_80, a_81, a_82, a_83, v_84, v_85, a_86, v_87, a_88, a_89, v_90, hfo_71, ⟨ma_72, ka_72⟩, bv_73, ⟨ma_74, ka_74⟩, ⟨ma_75, ka_75⟩, ⟨ma_76, ka_76⟩, ⟨ma_77, ka_77⟩, ⟨ma_78, ka_78⟩, ⟨ma_79, ka_79⟩, bv_80, ⟨ma_81, ka_81⟩, ⟨ma_82, ka_82⟩, ⟨ma_83, ka_83⟩, bv_84, ⟨ma_86, ka_86⟩, bv_87, ⟨ma_88, ka_88⟩, ⟨ma_89, ka_89⟩⟩ := un_11 (hG _ mo0) ko0
    have bv_85 : ((-2147483648) ≤ v_85.toInt ∧ v_85.toInt ≤ 2147483647) := ⟨i32_lo _, i32_hi _⟩
    have bv_90 : ((-2147483648) ≤ v_90.toInt ∧ v_90.toInt ≤ 2147483647) := ⟨i32_lo _, i32_hi _⟩
    obtain rfl : a_4 = a_74 := by have hk9 := hrr11_2 o0 ko0; rw [hfo_71, hfo_1] at hk9; exact (Option.some.inj hk9).symm
    obtain rfl : a_5 = a_75 := by have hk9 := hrr11_3 o0 ko0; rw [hfo_71, hfo_1] at hk9; exact (Option.some.inj hk9).symm
    obtain rfl : a_7 = a_77 := by have hk9 := hrr11_5 o0 ko0; rw [hfo_71, hfo_1] at hk9; exact (Option.some.inj hk9).symm
    obtain rfl : a_8 = a_78 := by have hk9 := hrr11_6 o0 ko0; rw [hfo_71, hfo_1] at hk9; exact (Option.some.inj hk9).symm
    obtain rfl : a_9 = a_79 := by have hk9 := hrr11_7 o0 ko0; rw [hfo_71, hfo_1] at hk9; exact (Option.some.inj hk9).symm
    obtain rfl : a_11 = a_81 := by have hk9 := hrr11_9 o0 ko0; rw [hfo_71, hfo_1] at hk9; exact (Option.some.inj hk9).symm
    obtain rfl : a_12 = a_82 := by have hk9 := hrr11_10 o0 ko0; rw [hfo_71, hfo_1] at hk9; exact (Option.some.inj hk9).symm
    obtain rfl : a_18 = a_88 := by have hk9 := hrr11_16 o0 ko0; rw [hfo_71, hfo_1] at hk9; exact (Option.some.inj hk9).symm
    obtain rfl : v_10 = v_80 := by have hk9 := hfc_60 o0 ko0; rw [hfo_71, hfo_37] at hk9; exact (Option.some.inj hk9).symm
    have hqhpost_69 := hpost_69 v_39 v_73 (by rw [hfo_37]; rfl) (by rw [hfo_71]; rfl)
    refine lv_aload_n hx hb dX11_feed_25 rfl (lv_at hl 0 rfl) ?_
    refine lv_iload_n hx hb dX11_feed_26 rfl (lv_at hl 3 rfl) ?_
    refine tk_VvP (As := [.int p3]) (rest := []) (n := 1) hx hb hml hown hU hN hZ (s_X11_putNumber_k11 l (dC, dI) cI cL cZ cR cG cH Z kd L f_58 hG o0 mo0 ko0 p3 (by intro w1 e1; rw [hfo_71] at e1; obtain rfl := Option.some.inj e1; omega)) wd_210 wd_211 wd_212 wd_2 wd_213 (by decide +kernel) ⟨Nat.le_of_ble_eq_true rfl, Nat.le_of_ble_eq_true rfl⟩ hK hP hD hS mo0 hfo_71 11 rfl rfl rfl hl.1 rfl (Nat.le_of_ble_eq_true rfl) dX11_feed_27 ⟨Nat.le_of_ble_eq_true rfl, Nat.le_of_ble_eq_true rfl⟩ (fun f_92 H locs hw hP hD hS => ?_)
    obtain ⟨hG, hkc_93, hfc_94, hrc_95, hrc_96, hrc_97, hrc_98, hrc_99, hrc_100, hrc_101, hrc_102, hpost_103⟩ := hw
    have hfr0 : ∀ b, kd b ≠ 11 → kd b ≠ 533 → f_92 b = f b := fun b q11 q533 => (hkc_93 b q11 q533).trans (hfr0 b q11 q533)
    have hfr11_8 : ∀ b, kd b = 11 → fldI (f_92 b) 8 = fldI (f b) 8 := fun b kb => (hfc_94 b kb).trans (hfr11_8 b kb)
    have hrr11_2 : ∀ b, kd b = 11 → fldR (f_92 b) 2 = fldR (f b) 2 := fun b kb => (hrc_95 b kb).trans (hrr11_2 b kb)
    have hrr11_3 : ∀ b, kd b = 11 → fldR (f_92 b) 3 = fldR (f b) 3 := fun b kb => (hrc_96 b kb).trans (hrr11_3 b kb)
    have hrr11_5 : ∀ b, kd b = 11 → fldR (f_92 b) 5 = fldR (f b) 5 := fun b kb => (hrc_97 b kb).trans (hrr11_5 b kb)
    have hrr11_6 : ∀ b, kd b = 11 → fldR (f_92 b) 6 = fldR (f b) 6 := fun b kb => (hrc_98 b kb).trans (hrr11_6 b kb)
    have hrr11_7 : ∀ b, kd b = 11 → fldR (f_92 b) 7 = fldR (f b) 7 := fun b kb => (hrc_99 b kb).trans (hrr11_7 b kb)
    have hrr11_9 : ∀ b, kd b = 11 → fldR (f_92 b) 9 = fldR (f b) 9 := fun b kb => (hrc_100 b kb).trans (hrr11_9 b kb)
    have hrr11_10 : ∀ b, kd b = 11 → fldR (f_92 b) 10 = fldR (f b) 10 := fun b kb => (hrc_101 b kb).trans (hrr11_10 b kb)
    have hrr11_16 : ∀ b, kd b = 11 → fldR (f_92 b) 16 = fldR (f b) 16 := fun b kb => (hrc_102 b kb).trans (hrr11_16 b kb)
    obtain ⟨a_106, v_107, a_108, a_109, a_110, a_111, a_112, a_113, v_114, a_115, a_116, a_117, v_118, v_119, a_120, v_121, a_122, a_123, v_124, hfo_105, ⟨ma_106, ka_106⟩, bv_107, ⟨ma_108, ka_108⟩, ⟨ma_109, ka_109⟩, ⟨ma_110, ka_110⟩, ⟨ma_111, ka_111⟩, ⟨ma_112, ka_112⟩, ⟨ma_113, ka_113⟩, bv_114, ⟨ma_115, ka_115⟩, ⟨ma_116, ka_116⟩, ⟨ma_117, ka_117⟩, bv_118, ⟨ma_120, ka_120⟩, bv_121, ⟨ma_122, ka_122⟩, ⟨ma_123, ka_123⟩⟩ := un_11 (hG _ mo0) ko0
    have bv_119 : ((-2147483648) ≤ v_119.toInt ∧ v_119.toInt ≤ 2147483647) := ⟨i32_lo _, i32_hi _⟩
    have bv_124 : ((-2147483648) ≤ v_124.toInt ∧ v_124.toInt ≤ 2147483647) := ⟨i32_lo _, i32_hi _⟩
    obtain rfl : a_4 = a_108 := by have hk9 := hrr11_2 o0 ko0; rw [hfo_105, hfo_1] at hk9; exact (Option.some.inj hk9).symm
    obtain rfl : a_5 = a_109 := by have hk9 := hrr11_3 o0 ko0; rw [hfo_105, hfo_1] at hk9; exact (Option.some.inj hk9).symm
    obtain rfl : a_7 = a_111 := by have hk9 := hrr11_5 o0 ko0; rw [hfo_105, hfo_1] at hk9; exact (Option.some.inj hk9).symm
    obtain rfl : a_8 = a_112 := by have hk9 := hrr11_6 o0 ko0; rw [hfo_105, hfo_1] at hk9; exact (Option.some.inj hk9).symm
    obtain rfl : a_9 = a_113 := by have hk9 := hrr11_7 o0 ko0; rw [hfo_105, hfo_1] at hk9; exact (Option.some.inj hk9).symm
    obtain rfl : a_11 = a_115 := by have hk9 := hrr11_9 o0 ko0; rw [hfo_105, hfo_1] at hk9; exact (Option.some.inj hk9).symm
    obtain rfl : a_12 = a_116 := by have hk9 := hrr11_10 o0 ko0; rw [hfo_105, hfo_1] at hk9; exact (Option.some.inj hk9).symm
    obtain rfl : a_18 = a_122 := by have hk9 := hrr11_16 o0 ko0; rw [hfo_105, hfo_1] at hk9; exact (Option.some.inj hk9).symm
    obtain rfl : v_10 = v_114 := by have hk9 := hfc_94 o0 ko0; rw [hfo_105, hfo_71] at hk9; exact (Option.some.inj hk9).symm
    have hqhpost_103 := hpost_103 v_73 v_107 (by rw [hfo_71]; rfl) (by rw [hfo_105]; rfl)
    refine lv_aload_n hx hb dX11_feed_30 rfl (lv_at hl 0 rfl) ?_
    refine lv_iload hx hb dX11_feed_31 (lv_at hl 4 rfl) ?_
    refine tk_VvP (As := [.int p4]) (rest := []) (n := 1) hx hb hml hown hU hN hZ (s_X11_putNumber_k11 l (dC, dI) cI cL cZ cR cG cH Z kd L f_92 hG o0 mo0 ko0 p4 (by intro w1 e1; rw [hfo_105] at e1; obtain rfl := Option.some.inj e1; omega)) wd_210 wd_211 wd_212 wd_2 wd_213 (by decide +kernel) ⟨Nat.le_of_ble_eq_true rfl, Nat.le_of_ble_eq_true rfl⟩ hK hP hD hS mo0 hfo_105 11 rfl rfl rfl hl.1 rfl (Nat.le_of_ble_eq_true rfl) dX11_feed_33 ⟨Nat.le_of_ble_eq_true rfl, Nat.le_of_ble_eq_true rfl⟩ (fun f_126 H locs hw hP hD hS => ?_)
    obtain ⟨hG, hkc_127, hfc_128, hrc_129, hrc_130, hrc_131, hrc_132, hrc_133, hrc_134, hrc_135, hrc_136, hpost_137⟩ := hw
    have hfr0 : ∀ b, kd b ≠ 11 → kd b ≠ 533 → f_126 b = f b := fun b q11 q533 => (hkc_127 b q11 q533).trans (hfr0 b q11 q533)
    have hfr11_8 : ∀ b, kd b = 11 → fldI (f_126 b) 8 = fldI (f b) 8 := fun b kb => (hfc_128 b kb).trans (hfr11_8 b kb)
    have hrr11_2 : ∀ b, kd b = 11 → fldR (f_126 b) 2 = fldR (f b) 2 := fun b kb => (hrc_129 b kb).trans (hrr11_2 b kb)
    have hrr11_3 : ∀ b, kd b = 11 → fldR (f_126 b) 3 = fldR (f b) 3 := fun b kb => (hrc_130 b kb).trans (hrr11_3 b kb)
    have hrr11_5 : ∀ b, kd b = 11 → fldR (f_126 b) 5 = fldR (f b) 5 := fun b kb => (hrc_131 b kb).trans (hrr11_5 b kb)
    have hrr11_6 : ∀ b, kd b = 11 → fldR (f_126 b) 6 = fldR (f b) 6 := fun b kb => (hrc_132 b kb).trans (hrr11_6 b kb)
    have hrr11_7 : ∀ b, kd b = 11 → fldR (f_126 b) 7 = fldR (f b) 7 := fun b kb => (hrc_133 b kb).trans (hrr11_7 b kb)
    have hrr11_9 : ∀ b, kd b = 11 → fldR (f_126 b) 9 = fldR (f b) 9 := fun b kb => (hrc_134 b kb).trans (hrr11_9 b kb)
    have hrr11_10 : ∀ b, kd b = 11 → fldR (f_126 b) 10 = fldR (f b) 10 := fun b kb => (hrc_135 b kb).trans (hrr11_10 b kb)
    have hrr11_16 : ∀ b, kd b = 11 → fldR (f_126 b) 16 = fldR (f b) 16 := fun b kb => (hrc_136 b kb).trans (hrr11_16 b kb)
    obtain ⟨a_140, v_141, a_142, a_143, a_144, a_145, a_146, a_147, v_148, a_149, a_150, a_151, v_152, v_153, a_154, v_155, a_156, a_157, v_158, hfo_139, ⟨ma_140, ka_140⟩, bv_141, ⟨ma_142, ka_142⟩, ⟨ma_143, ka_143⟩, ⟨ma_144, ka_144⟩, ⟨ma_145, ka_145⟩, ⟨ma_146, ka_146⟩, ⟨ma_147, ka_147⟩, bv_148, ⟨ma_149, ka_149⟩, ⟨ma_150, ka_150⟩, ⟨ma_151, ka_151⟩, bv_152, ⟨ma_154, ka_154⟩, bv_155, ⟨ma_156, ka_156⟩, ⟨ma_157, ka_157⟩⟩ := un_11 (hG _ mo0) ko0
    have bv_153 : ((-2147483648) ≤ v_153.toInt ∧ v_153.toInt ≤ 2147483647) := ⟨i32_lo _, i32_hi _⟩
    have bv_158 : ((-2147483648) ≤ v_158.toInt ∧ v_158.toInt ≤ 2147483647) := ⟨i32_lo _, i32_hi _⟩
    obtain rfl : a_4 = a_142 := by have hk9 := hrr11_2 o0 ko0; rw [hfo_139, hfo_1] at hk9; exact (Option.some.inj hk9).symm
    obtain rfl : a_5 = a_143 := by have hk9 := hrr11_3 o0 ko0; rw [hfo_139, hfo_1] at hk9; exact (Option.some.inj hk9).symm
    obtain rfl : a_7 = a_145 := by have hk9 := hrr11_5 o0 ko0; rw [hfo_139, hfo_1] at hk9; exact (Option.some.inj hk9).symm
    obtain rfl : a_8 = a_146 := by have hk9 := hrr11_6 o0 ko0; rw [hfo_139, hfo_1] at hk9; exact (Option.some.inj hk9).symm
    obtain rfl : a_9 = a_147 := by have hk9 := hrr11_7 o0 ko0; rw [hfo_139, hfo_1] at hk9; exact (Option.some.inj hk9).symm
    obtain rfl : a_11 = a_149 := by have hk9 := hrr11_9 o0 ko0; rw [hfo_139, hfo_1] at hk9; exact (Option.some.inj hk9).symm
    obtain rfl : a_12 = a_150 := by have hk9 := hrr11_10 o0 ko0; rw [hfo_139, hfo_1] at hk9; exact (Option.some.inj hk9).symm
    obtain rfl : a_18 = a_156 := by have hk9 := hrr11_16 o0 ko0; rw [hfo_139, hfo_1] at hk9; exact (Option.some.inj hk9).symm
    obtain rfl : v_10 = v_148 := by have hk9 := hfc_128 o0 ko0; rw [hfo_139, hfo_105] at hk9; exact (Option.some.inj hk9).symm
    have hqhpost_137 := hpost_137 v_107 v_141 (by rw [hfo_105]; rfl) (by rw [hfo_139]; rfl)
    refine lv_aload_n hx hb dX11_feed_36 rfl (lv_at hl 0 rfl) ?_
    refine lv_iload hx hb dX11_feed_37 (lv_at hl 5 rfl) ?_
    refine tk_VvP (As := [.int p5]) (rest := []) (n := 1) hx hb hml hown hU hN hZ (s_X11_putNumber_k11 l (dC, dI) cI cL cZ cR cG cH Z kd L f_126 hG o0 mo0 ko0 p5 (by intro w1 e1; rw [hfo_139] at e1; obtain rfl := Option.some.inj e1; omega)) wd_210 wd_211 wd_212 wd_2 wd_213 (by decide +kernel) ⟨Nat.le_of_ble_eq_true rfl, Nat.le_of_ble_eq_true rfl⟩ hK hP hD hS mo0 hfo_139 11 rfl rfl rfl hl.1 rfl (Nat.le_of_ble_eq_true rfl) dX11_feed_39 ⟨Nat.le_of_ble_eq_true rfl, Nat.le_of_ble_eq_true rfl⟩ (fun f_160 H locs hw hP hD hS => ?_)
    obtain ⟨hG, hkc_161, hfc_162, hrc_163, hrc_164, hrc_165, hrc_166, hrc_167, hrc_168, hrc_169, hrc_170, hpost_171⟩ := hw
    have hfr0 : ∀ b, kd b ≠ 11 → kd b ≠ 533 → f_160 b = f b := fun b q11 q533 => (hkc_161 b q11 q533).trans (hfr0 b q11 q533)
    have hfr11_8 : ∀ b, kd b = 11 → fldI (f_160 b) 8 = fldI (f b) 8 := fun b kb => (hfc_162 b kb).trans (hfr11_8 b kb)
    have hrr11_2 : ∀ b, kd b = 11 → fldR (f_160 b) 2 = fldR (f b) 2 := fun b kb => (hrc_163 b kb).trans (hrr11_2 b kb)
    have hrr11_3 : ∀ b, kd b = 11 → fldR (f_160 b) 3 = fldR (f b) 3 := fun b kb => (hrc_164 b kb).trans (hrr11_3 b kb)
    have hrr11_5 : ∀ b, kd b = 11 → fldR (f_160 b) 5 = fldR (f b) 5 := fun b kb => (hrc_165 b kb).trans (hrr11_5 b kb)
    have hrr11_6 : ∀ b, kd b = 11 → fldR (f_160 b) 6 = fldR (f b) 6 := fun b kb => (hrc_166 b kb).trans (hrr11_6 b kb)
    have hrr11_7 : ∀ b, kd b = 11 → fldR (f_160 b) 7 = fldR (f b) 7 := fun b kb => (hrc_167 b kb).trans (hrr11_7 b kb)
    have hrr11_9 : ∀ b, kd b = 11 → fldR (f_160 b) 9 = fldR (f b) 9 := fun b kb => (hrc_168 b kb).trans (hrr11_9 b kb)
    have hrr11_10 : ∀ b, kd b = 11 → fldR (f_160 b) 10 = fldR (f b) 10 := fun b kb => (hrc_169 b kb).trans (hrr11_10 b kb)
    have hrr11_16 : ∀ b, kd b = 11 → fldR (f_160 b) 16 = fldR (f b) 16 := fun b kb => (hrc_170 b kb).trans (hrr11_16 b kb)
    obtain ⟨a_174, v_175, a_176, a_177, a_178, a_179, a_180, a_181, v_182, a_183, a_184, a_185, v_186, v_187, a_188, v_189, a_190, a_191, v_192, hfo_173, ⟨ma_174, ka_174⟩, bv_175, ⟨ma_176, ka_176⟩, ⟨ma_177, ka_177⟩, ⟨ma_178, ka_178⟩, ⟨ma_179, ka_179⟩, ⟨ma_180, ka_180⟩, ⟨ma_181, ka_181⟩, bv_182, ⟨ma_183, ka_183⟩, ⟨ma_184, ka_184⟩, ⟨ma_185, ka_185⟩, bv_186, ⟨ma_188, ka_188⟩, bv_189, ⟨ma_190, ka_190⟩, ⟨ma_191, ka_191⟩⟩ := un_11 (hG _ mo0) ko0
    have bv_187 : ((-2147483648) ≤ v_187.toInt ∧ v_187.toInt ≤ 2147483647) := ⟨i32_lo _, i32_hi _⟩
    have bv_192 : ((-2147483648) ≤ v_192.toInt ∧ v_192.toInt ≤ 2147483647) := ⟨i32_lo _, i32_hi _⟩
    obtain rfl : a_4 = a_176 := by have hk9 := hrr11_2 o0 ko0; rw [hfo_173, hfo_1] at hk9; exact (Option.some.inj hk9).symm
    obtain rfl : a_5 = a_177 := by have hk9 := hrr11_3 o0 ko0; rw [hfo_173, hfo_1] at hk9; exact (Option.some.inj hk9).symm
    obtain rfl : a_7 = a_179 := by have hk9 := hrr11_5 o0 ko0; rw [hfo_173, hfo_1] at hk9; exact (Option.some.inj hk9).symm
    obtain rfl : a_8 = a_180 := by have hk9 := hrr11_6 o0 ko0; rw [hfo_173, hfo_1] at hk9; exact (Option.some.inj hk9).symm
    obtain rfl : a_9 = a_181 := by have hk9 := hrr11_7 o0 ko0; rw [hfo_173, hfo_1] at hk9; exact (Option.some.inj hk9).symm
    obtain rfl : a_11 = a_183 := by have hk9 := hrr11_9 o0 ko0; rw [hfo_173, hfo_1] at hk9; exact (Option.some.inj hk9).symm
    obtain rfl : a_12 = a_184 := by have hk9 := hrr11_10 o0 ko0; rw [hfo_173, hfo_1] at hk9; exact (Option.some.inj hk9).symm
    obtain rfl : a_18 = a_190 := by have hk9 := hrr11_16 o0 ko0; rw [hfo_173, hfo_1] at hk9; exact (Option.some.inj hk9).symm
    obtain rfl : v_10 = v_182 := by have hk9 := hfc_162 o0 ko0; rw [hfo_173, hfo_139] at hk9; exact (Option.some.inj hk9).symm
    have hqhpost_171 := hpost_171 v_141 v_175 (by rw [hfo_139]; rfl) (by rw [hfo_173]; rfl)
    refine lv_aload_n hx hb dX11_feed_42 rfl (lv_at hl 0 rfl) ?_
    refine tk_getP (D := (dC, dI)) (ci := 11) (v := .int v_175) (C := RX11) (T := TX11) (N := 19) hx hb hU inlX11 hown hK hP mo0 hfo_173 rfl 1 (by decide) (hU _ wd_209) (fun _ h9 => h9) rfl dX11_feed_43 ?_
    exact W.iret (v := v_175) hx hb hr (fun t ht hW => ⟨⟨v_175, f_160, rfl, ⟨hG, (by constructor <;> omega), hfr0, hfr11_8, hrr11_2, hrr11_3, hrr11_5, hrr11_6, hrr11_7, hrr11_9, hrr11_10, hrr11_16, (by intro w1 z1 e1 d1; rw [hfo_1] at e1; rw [hfo_173] at d1; obtain rfl := Option.some.inj e1; obtain rfl := Option.some.inj d1; omega)⟩, by rw [ht]; exact hP, va_K.moved hW.alike hK, pl_in hD⟩, hS.F ht⟩) hS.2.2 dX11_feed_46
  · skip
    rw [Int32.le_iff_toInt_le, ti_600] at c_22
    refine lv_iconst (v := (-1)) hx hb dX11_feed_13 (by decide) ?_
    exact W.iret (v := (-1)) hx hb hr (fun t ht hW => ⟨⟨(-1), f, rfl, ⟨hG, (by decide), hfr0, hfr11_8, hrr11_2, hrr11_3, hrr11_5, hrr11_6, hrr11_7, hrr11_9, hrr11_10, hrr11_16, (by intro w1 z1 e1 d1; rw [hfo_1] at e1; rw [hfo_1] at d1; obtain rfl := Option.some.inj e1; obtain rfl := Option.some.inj d1; (try rw [ti_m1]) <;> omega)⟩, by rw [ht]; exact hP, va_K.moved hW.alike hK, pl_in hD⟩, hS.F ht⟩) hS.2.2 dX11_feed_14
set_option maxHeartbeats 8000000 in
set_option maxRecDepth 100000 in
theorem s_X11_areLetters_k11 (l : Launch) (D : va_G) (cI cL cZ cR cG cH : ClassId) (Z : zT) (kd : Nat → Nat) (L : List Nat) (f : Nat → va_E) (hG : GI (okc cI cL cZ cR cG cH L kd) kd L f) (o0 : Nat) (mo0 : o0 ∈ L) (ko0 : kd o0 = 11) (p1 : Int32) (bp1 : (0 ≤ p1.toInt ∧ p1.toInt ≤ 600)) (p2 : Int32) (bp2 : (0 ≤ p2.toInt ∧ p2.toInt ≤ 600)) : mPI l D cI cL cZ cR cG cH Z yX11_areLetters cX11_areLetters 4 (some .boolean) 1 21 [.ref o0, .int p1, .int p2] L f (fun (r : Int32) (f9 : Nat → va_E) => f = f9 ∧ (0 ≤ r.toInt ∧ r.toInt ≤ 1)) := by
  obtain ⟨dC, dI⟩ := D
  refine Met.ofW (cc := cX11_areLetters) (maxL := 4) (ret := (some .boolean)) (by decide) rfl ?_
  intro p e s m args below meth c s₁ B hml hv
  obtain ⟨rfl, hP, hK, hD0, hN, hZ⟩ := hv
  have hx := B.exec
  have hb := B.bytes
  have hr := B.returns
  have hU : ∀ w ∈ wsU, w.before _ s = true := fun w h => atoms_spec (ws := wU yX11_areLetters cX11_areLetters 4 (some .boolean)) B.pre w (List.mem_cons_of_mem _ h)
  have hown : s.vm.findClass RX11 = some m.cls := findClass_of_methodNamed B.named
  have hlocks := B.notSynchronized
  have hD := pl_in hD0
  have hS : va_S (fun q => q ∈ L) s.heap s.heap [] := va_S.rf
  have hl := lv_entry ([.ref o0, .int p1, .int p2]) (n := 4) (Nat.le_of_ble_eq_true rfl)
  rw [lg_entry_eq]
  generalize (lg_sl ([.ref o0, .int p1, .int p2]) ++ List.replicate (4 - (lg_sl ([.ref o0, .int p1, .int p2])).length) Slot.unset).toArray = ls at hl ⊢
  have hl : lv_has ls 4 [(0, .ref o0), (1, .int p1), (2, .int p2)] := hl
  refine lv_iload_n hx hb dX11_areLetters_0 rfl (lv_at hl 1 rfl) ?_
  refine lv_istore_n (lv' := [(3, .int p1), (0, .ref o0), (1, .int p1), (2, .int p2)]) hx hb dX11_areLetters_1 rfl hl (by decide) rfl (fun ls hl => ?_)
  have hloop_5 : ∀ (n : Nat), ∀ (y_6 : Int32), (0 ≤ y_6.toInt ∧ y_6.toInt ≤ 600) → ∀ (H : Heap) (locs : List Loc), va_P (dC, dI) vwCl (va_pl L f) H → va_S (fun q => q ∈ L) s.heap H locs → 600 - y_6.toInt < (n : Int) → ∀ (ls : Array Slot), lv_has ls 4 [(3, .int y_6), (0, .ref o0), (1, .int p1), (2, .int p2)] → W p l e (headSpec (wU yX11_areLetters cX11_areLetters 4 (some .boolean)) { frames := 1, cells := 0, slots := 0, locals := 21 }).room s m [.ref o0, .int p1, .int p2].toArray below meth c H locs 0 0 (MQ below (va_Qi (fun (r : Int32) (f9 : Nat → va_E) => f = f9 ∧ (0 ≤ r.toInt ∧ r.toInt ≤ 1)) (qP (dC, dI) cI cL cZ cR cG cH L) (fun q => q ∈ L)) [.ref o0, .int p1, .int p2].toArray s 0 0 (fun q => q ∈ L)) (F0 m 2 ls []) := by
    intro n
    induction n with
    | zero => intro y_6 by_6 H locs hP hS hmuhloop_5 ls hl; exfalso; omega
    | succ n ih_hloop_5 =>
      intro y_6 by_6 H locs hP hS hmuhloop_5 ls hl
      refine lv_iload_n hx hb dX11_areLetters_2 rfl (lv_at hl 0 rfl) ?_
      refine lv_iload_n hx hb dX11_areLetters_3 rfl (lv_at hl 3 rfl) ?_
      refine lv_icmp_ge (tgt := 31) hx hb dX11_areLetters_4 (by decide) (fun c_8 => ?_) (fun c_8 => ?_)
      · skip
        rw [Int32.le_iff_toInt_le] at c_8
        refine lv_iconst (v := 1) hx hb dX11_areLetters_31 (by decide) ?_
        exact W.zret (v := 1) (ty := .boolean) hx hb hr rfl (fun t ht hW => ⟨⟨1, f, rfl, ⟨rfl, (by decide)⟩, by rw [ht]; exact hP, va_K.moved hW.alike hK, pl_in hD⟩, hS.F ht⟩) hS.2.2 dX11_areLetters_32
      · skip
        rw [Int32.le_iff_toInt_le] at c_8
        refine lv_aload_n hx hb dX11_areLetters_7 rfl (lv_at hl 1 rfl) ?_
        obtain ⟨a_10, v_11, a_12, a_13, a_14, a_15, a_16, a_17, v_18, a_19, a_20, a_21, v_22, v_23, a_24, v_25, a_26, a_27, v_28, hfo_9, ⟨ma_10, ka_10⟩, bv_11, ⟨ma_12, ka_12⟩, ⟨ma_13, ka_13⟩, ⟨ma_14, ka_14⟩, ⟨ma_15, ka_15⟩, ⟨ma_16, ka_16⟩, ⟨ma_17, ka_17⟩, bv_18, ⟨ma_19, ka_19⟩, ⟨ma_20, ka_20⟩, ⟨ma_21, ka_21⟩, bv_22, ⟨ma_24, ka_24⟩, bv_25, ⟨ma_26, ka_26⟩, ⟨ma_27, ka_27⟩⟩ := un_11 (hG _ mo0) ko0
        have bv_23 : ((-2147483648) ≤ v_23.toInt ∧ v_23.toInt ≤ 2147483647) := ⟨i32_lo _, i32_hi _⟩
        have bv_28 : ((-2147483648) ≤ v_28.toInt ∧ v_28.toInt ≤ 2147483647) := ⟨i32_lo _, i32_hi _⟩
        refine tk_getP (D := (dC, dI)) (ci := 11) (v := .ref a_13) (C := RX11) (T := TX11) (N := 19) hx hb hU inlX11 hown hK hP mo0 hfo_9 rfl 3 (by decide) (hU _ wd_19) (fun _ h9 => h9) rfl dX11_areLetters_8 ?_
        refine lv_aload_n hx hb dX11_areLetters_11 rfl (lv_at hl 1 rfl) ?_
        refine tk_getP (D := (dC, dI)) (ci := 11) (v := .ref a_10) (C := RX11) (T := TX11) (N := 19) hx hb hU inlX11 hown hK hP mo0 hfo_9 rfl 0 (by decide) (hU _ wd_13) (fun _ h9 => h9) rfl dX11_areLetters_12 ?_
        refine lv_iload_n hx hb dX11_areLetters_15 rfl (lv_at hl 0 rfl) ?_
        obtain ⟨g_30, hfo_29, hbg_30⟩ := un_533 (hG _ ma_10) ka_10
        refine tk_ildP hx hb hK hP 0 ma_10 hfo_29 rfl (vp_in_iff.mpr (by constructor <;> omega)) dX11_areLetters_16 ?_
        refine lv_topi (fun x_31 ex_31 => ?_)
        have bx_31 : ((-2147483648) ≤ x_31.toInt ∧ x_31.toInt ≤ 2147483647) := ⟨i32_lo _, i32_hi _⟩
        obtain ⟨a_33, v_34, a_35, a_36, a_37, a_38, v_39, a_40, a_41, a_42, a_43, a_44, v_45, a_46, a_47, a_48, hfo_32, ⟨ma_33, ka_33⟩, bv_34, ⟨ma_35, ka_35⟩, ⟨ma_36, ka_36⟩, ⟨ma_37, ka_37⟩, ⟨ma_38, ka_38⟩, bv_39, ⟨ma_40, ka_40⟩, ⟨ma_41, ka_41⟩, ⟨ma_42, ka_42⟩, ⟨ma_43, ka_43⟩, ⟨ma_44, ka_44⟩, bv_45, ⟨ma_46, ka_46⟩, ⟨ma_47, ka_47⟩, ⟨ma_48, ka_48⟩⟩ := un_7 (hG _ ma_13) ka_13
        refine tk_ViP (As := [.int x_31]) (rest := []) (n := 1) hx hb hml hown hU hN hZ (s_X7_signOf_k7 l (dC, dI) cI cL cZ cR cG cH Z kd L f hG a_13 ma_13 ka_13 x_31) wd_717 wd_346 wd_347 wd_28 wd_348 (by decide +kernel) ⟨Nat.le_of_ble_eq_true rfl, Nat.le_of_ble_eq_true rfl⟩ hK hP hD hS ma_13 hfo_32 7 rfl rfl rfl hl.1 rfl (Nat.le_of_ble_eq_true rfl) dX11_areLetters_17 ⟨Nat.le_of_ble_eq_true rfl, Nat.le_of_ble_eq_true rfl⟩ (fun x_49 f_50 H locs hw hP hD hS => ?_)
        obtain ⟨rfl, bx_49⟩ := hw
        refine lv_if_ne (tgt := 25) hx hb dX11_areLetters_20 (by decide) (fun c_52 => ?_) (fun c_52 => ?_)
        · skip
          rw [← Int32.toInt_inj, ti_0] at c_52
          obtain ⟨x_53, ex_53⟩ : ∃ y : Int32, y_6 + 1 = y := ⟨_, rfl⟩
          have hx_53 : x_53.toInt = y_6.toInt + 1 := by rw [← ex_53, ad_I (by rw [ti_1]; omega) (by rw [ti_1]; omega), ti_1]
          have bx_53 : (1 ≤ x_53.toInt ∧ x_53.toInt ≤ 600) := by constructor <;> omega
          refine lv_iinc (v := x_53) (lv' := [(3, .int x_53), (0, .ref o0), (1, .int p1), (2, .int p2)]) hx hb dX11_areLetters_25 hl (k := 0) rfl ex_53 (by decide) rfl (fun ls hl => ?_)
          refine lv_goto (tgt := 2) hx hb dX11_areLetters_28 (by decide) ?_
          exact ih_hloop_5 x_53 (by constructor <;> omega) _ _ hP hS (by omega) ls (lv_sub hl [0, 1, 2, 3] rfl)
        · skip
          rw [← Int32.toInt_inj, ti_0] at c_52
          refine lv_iconst (v := 0) hx hb dX11_areLetters_23 (by decide) ?_
          exact W.zret (v := 0) (ty := .boolean) hx hb hr rfl (fun t ht hW => ⟨⟨0, f, rfl, ⟨rfl, (by decide)⟩, by rw [ht]; exact hP, va_K.moved hW.alike hK, pl_in hD⟩, hS.F ht⟩) hS.2.2 dX11_areLetters_24
  exact hloop_5 601 p1 (by constructor <;> omega) _ _ hP hS (by omega) ls hl
set_option maxHeartbeats 8000000 in
set_option maxRecDepth 100000 in
theorem s_X11_placeOfColon_k11 (l : Launch) (D : va_G) (cI cL cZ cR cG cH : ClassId) (Z : zT) (kd : Nat → Nat) (L : List Nat) (f : Nat → va_E) (hG : GI (okc cI cL cZ cR cG cH L kd) kd L f) (o0 : Nat) (mo0 : o0 ∈ L) (ko0 : kd o0 = 11) (p1 : Int32) (bp1 : (0 ≤ p1.toInt ∧ p1.toInt ≤ 600)) : mPI l D cI cL cZ cR cG cH Z yX11_placeOfColon cX11_placeOfColon 3 (some .int) 0 0 [.ref o0, .int p1] L f (fun (r : Int32) (f9 : Nat → va_E) => f = f9 ∧ ((-1) ≤ r.toInt ∧ r.toInt ≤ 599)) := by
  obtain ⟨dC, dI⟩ := D
  refine Met.ofW (cc := cX11_placeOfColon) (maxL := 3) (ret := (some .int)) (by decide) rfl ?_
  intro p e s m args below meth c s₁ B hml hv
  obtain ⟨rfl, hP, hK, hD0, hN, hZ⟩ := hv
  have hx := B.exec
  have hb := B.bytes
  have hr := B.returns
  have hU : ∀ w ∈ wsU, w.before _ s = true := fun w h => atoms_spec (ws := wU yX11_placeOfColon cX11_placeOfColon 3 (some .int)) B.pre w (List.mem_cons_of_mem _ h)
  have hown : s.vm.findClass RX11 = some m.cls := findClass_of_methodNamed B.named
  have hlocks := B.notSynchronized
  have hD := pl_in hD0
  have hS : va_S (fun q => q ∈ L) s.heap s.heap [] := va_S.rf
  have hl := lv_entry ([.ref o0, .int p1]) (n := 3) (Nat.le_of_ble_eq_true rfl)
  rw [lg_entry_eq]
  generalize (lg_sl ([.ref o0, .int p1]) ++ List.replicate (3 - (lg_sl ([.ref o0, .int p1])).length) Slot.unset).toArray = ls at hl ⊢
  have hl : lv_has ls 3 [(0, .ref o0), (1, .int p1)] := hl
  refine lv_iconst (v := 0) hx hb dX11_placeOfColon_0 (by decide) ?_
  refine lv_istore_n (lv' := [(2, .int 0), (0, .ref o0), (1, .int p1)]) hx hb dX11_placeOfColon_1 rfl hl (by decide) rfl (fun ls hl => ?_)
  have hloop_7 : ∀ (n : Nat), ∀ (y_8 : Int32), (0 ≤ y_8.toInt ∧ y_8.toInt ≤ 600) → 600 - y_8.toInt < (n : Int) → ∀ (ls : Array Slot), lv_has ls 3 [(2, .int y_8), (0, .ref o0), (1, .int p1)] → W p l e (headSpec (wU yX11_placeOfColon cX11_placeOfColon 3 (some .int)) { frames := 0, cells := 0, slots := 0, locals := 0 }).room s m [.ref o0, .int p1].toArray below meth c s.heap [] 0 0 (MQ below (va_Qi (fun (r : Int32) (f9 : Nat → va_E) => f = f9 ∧ ((-1) ≤ r.toInt ∧ r.toInt ≤ 599)) (qP (dC, dI) cI cL cZ cR cG cH L) (fun q => q ∈ L)) [.ref o0, .int p1].toArray s 0 0 (fun q => q ∈ L)) (F0 m 2 ls []) := by
    intro n
    induction n with
    | zero => intro y_8 by_8 hmuhloop_7 ls hl; exfalso; omega
    | succ n ih_hloop_7 =>
      intro y_8 by_8 hmuhloop_7 ls hl
      refine lv_iload_n hx hb dX11_placeOfColon_2 rfl (lv_at hl 0 rfl) ?_
      refine lv_iload_n hx hb dX11_placeOfColon_3 rfl (lv_at hl 2 rfl) ?_
      refine lv_icmp_ge (tgt := 26) hx hb dX11_placeOfColon_4 (by decide) (fun c_9 => ?_) (fun c_9 => ?_)
      · skip
        rw [Int32.le_iff_toInt_le] at c_9
        refine lv_iconst (v := (-1)) hx hb dX11_placeOfColon_26 (by decide) ?_
        exact W.iret (v := (-1)) hx hb hr (fun t ht hW => ⟨⟨(-1), f, rfl, ⟨rfl, (by decide)⟩, by rw [ht]; exact hP, va_K.moved hW.alike hK, pl_in hD⟩, hS.F ht⟩) hS.2.2 dX11_placeOfColon_27
      · skip
        rw [Int32.le_iff_toInt_le] at c_9
        refine lv_aload_n hx hb dX11_placeOfColon_7 rfl (lv_at hl 1 rfl) ?_
        obtain ⟨a_11, v_12, a_13, a_14, a_15, a_16, a_17, a_18, v_19, a_20, a_21, a_22, v_23, v_24, a_25, v_26, a_27, a_28, v_29, hfo_10, ⟨ma_11, ka_11⟩, bv_12, ⟨ma_13, ka_13⟩, ⟨ma_14, ka_14⟩, ⟨ma_15, ka_15⟩, ⟨ma_16, ka_16⟩, ⟨ma_17, ka_17⟩, ⟨ma_18, ka_18⟩, bv_19, ⟨ma_20, ka_20⟩, ⟨ma_21, ka_21⟩, ⟨ma_22, ka_22⟩, bv_23, ⟨ma_25, ka_25⟩, bv_26, ⟨ma_27, ka_27⟩, ⟨ma_28, ka_28⟩⟩ := un_11 (hG _ mo0) ko0
        have bv_24 : ((-2147483648) ≤ v_24.toInt ∧ v_24.toInt ≤ 2147483647) := ⟨i32_lo _, i32_hi _⟩
        have bv_29 : ((-2147483648) ≤ v_29.toInt ∧ v_29.toInt ≤ 2147483647) := ⟨i32_lo _, i32_hi _⟩
        refine tk_getP (D := (dC, dI)) (ci := 11) (v := .ref a_11) (C := RX11) (T := TX11) (N := 19) hx hb hU inlX11 hown hK hP mo0 hfo_10 rfl 0 (by decide) (hU _ wd_13) (fun _ h9 => h9) rfl dX11_placeOfColon_8 ?_
        refine lv_iload_n hx hb dX11_placeOfColon_11 rfl (lv_at hl 0 rfl) ?_
        obtain ⟨g_31, hfo_30, hbg_31⟩ := un_533 (hG _ ma_11) ka_11
        refine tk_ildP hx hb hK hP 0 ma_11 hfo_30 rfl (vp_in_iff.mpr (by constructor <;> omega)) dX11_placeOfColon_12 ?_
        refine lv_topi (fun x_32 ex_32 => ?_)
        have bx_32 : ((-2147483648) ≤ x_32.toInt ∧ x_32.toInt ≤ 2147483647) := ⟨i32_lo _, i32_hi _⟩
        refine lv_bipush (v := 58) hx hb dX11_placeOfColon_13 (by decide) ?_
        refine lv_icmp_ne (tgt := 20) hx hb dX11_placeOfColon_15 (by decide) (fun c_33 => ?_) (fun c_33 => ?_)
        · skip
          rw [← Int32.toInt_inj, ti_58] at c_33
          obtain ⟨x_34, ex_34⟩ : ∃ y : Int32, y_8 + 1 = y := ⟨_, rfl⟩
          have hx_34 : x_34.toInt = y_8.toInt + 1 := by rw [← ex_34, ad_I (by rw [ti_1]; omega) (by rw [ti_1]; omega), ti_1]
          have bx_34 : (1 ≤ x_34.toInt ∧ x_34.toInt ≤ 600) := by constructor <;> omega
          refine lv_iinc (v := x_34) (lv' := [(2, .int x_34), (0, .ref o0), (1, .int p1)]) hx hb dX11_placeOfColon_20 hl (k := 0) rfl ex_34 (by decide) rfl (fun ls hl => ?_)
          refine lv_goto (tgt := 2) hx hb dX11_placeOfColon_23 (by decide) ?_
          exact ih_hloop_7 x_34 (by constructor <;> omega) (by omega) ls (lv_sub hl [0, 1, 2] rfl)
        · skip
          rw [← Int32.toInt_inj, ti_58] at c_33
          refine lv_iload_n hx hb dX11_placeOfColon_18 rfl (lv_at hl 0 rfl) ?_
          exact W.iret (v := y_8) hx hb hr (fun t ht hW => ⟨⟨y_8, f, rfl, ⟨rfl, (by constructor <;> omega)⟩, by rw [ht]; exact hP, va_K.moved hW.alike hK, pl_in hD⟩, hS.F ht⟩) hS.2.2 dX11_placeOfColon_19
  exact hloop_7 601 0 (by decide) (by (try rw [ti_0]) <;> omega) ls hl
set_option maxHeartbeats 8000000 in
set_option maxRecDepth 100000 in
theorem s_X11_rule_k11 (l : Launch) (D : va_G) (cI cL cZ cR cG cH : ClassId) (Z : zT) (kd : Nat → Nat) (L : List Nat) (f : Nat → va_E) (hG : GI (okc cI cL cZ cR cG cH L kd) kd L f) (o0 : Nat) (mo0 : o0 ∈ L) (ko0 : kd o0 = 11) (p1 : Int32) (p2 : Int32) : mPI l D cI cL cZ cR cG cH Z yX11_rule cX11_rule 4 (some .int) 1 21 [.ref o0, .int p1, .int p2] L f (fun (r : Int32) (f9 : Nat → va_E) => f = f9 ∧ ((-2147483648) ≤ r.toInt ∧ r.toInt ≤ 2147483647)) := by
  obtain ⟨dC, dI⟩ := D
  refine Met.ofW (cc := cX11_rule) (maxL := 4) (ret := (some .int)) (by decide) rfl ?_
  intro p e s m args below meth c s₁ B hml hv
  obtain ⟨rfl, hP, hK, hD0, hN, hZ⟩ := hv
  have hx := B.exec
  have hb := B.bytes
  have hr := B.returns
  have hU : ∀ w ∈ wsU, w.before _ s = true := fun w h => atoms_spec (ws := wU yX11_rule cX11_rule 4 (some .int)) B.pre w (List.mem_cons_of_mem _ h)
  have hown : s.vm.findClass RX11 = some m.cls := findClass_of_methodNamed B.named
  have hlocks := B.notSynchronized
  have hD := pl_in hD0
  have hS : va_S (fun q => q ∈ L) s.heap s.heap [] := va_S.rf
  have hl := lv_entry ([.ref o0, .int p1, .int p2]) (n := 4) (Nat.le_of_ble_eq_true rfl)
  rw [lg_entry_eq]
  generalize (lg_sl ([.ref o0, .int p1, .int p2]) ++ List.replicate (4 - (lg_sl ([.ref o0, .int p1, .int p2])).length) Slot.unset).toArray = ls at hl ⊢
  have hl : lv_has ls 4 [(0, .ref o0), (1, .int p1), (2, .int p2)] := hl
  have bp1 : ((-2147483648) ≤ p1.toInt ∧ p1.toInt ≤ 2147483647) := ⟨i32_lo _, i32_hi _⟩
  have bp2 : ((-2147483648) ≤ p2.toInt ∧ p2.toInt ≤ 2147483647) := ⟨i32_lo _, i32_hi _⟩
  refine lv_aload_n hx hb dX11_rule_0 rfl (lv_at hl 0 rfl) ?_
  refine lv_iload_n hx hb dX11_rule_1 rfl (lv_at hl 1 rfl) ?_
  obtain ⟨a_2, v_3, a_4, a_5, a_6, a_7, a_8, a_9, v_10, a_11, a_12, a_13, v_14, v_15, a_16, v_17, a_18, a_19, v_20, hfo_1, ⟨ma_2, ka_2⟩, bv_3, ⟨ma_4, ka_4⟩, ⟨ma_5, ka_5⟩, ⟨ma_6, ka_6⟩, ⟨ma_7, ka_7⟩, ⟨ma_8, ka_8⟩, ⟨ma_9, ka_9⟩, bv_10, ⟨ma_11, ka_11⟩, ⟨ma_12, ka_12⟩, ⟨ma_13, ka_13⟩, bv_14, ⟨ma_16, ka_16⟩, bv_17, ⟨ma_18, ka_18⟩, ⟨ma_19, ka_19⟩⟩ := un_11 (hG _ mo0) ko0
  have bv_15 : ((-2147483648) ≤ v_15.toInt ∧ v_15.toInt ≤ 2147483647) := ⟨i32_lo _, i32_hi _⟩
  have bv_20 : ((-2147483648) ≤ v_20.toInt ∧ v_20.toInt ≤ 2147483647) := ⟨i32_lo _, i32_hi _⟩
  refine tk_ViP (As := [.int p1]) (rest := []) (n := 1) hx hb hml hown hU hN hZ (s_X11_isRule_k11 l (dC, dI) cI cL cZ cR cG cH Z kd L f hG o0 mo0 ko0 p1) wd_1135 wd_1136 wd_1137 wd_2 wd_1138 (by decide +kernel) ⟨Nat.le_of_ble_eq_true rfl, Nat.le_of_ble_eq_true rfl⟩ hK hP hD hS mo0 hfo_1 11 rfl rfl rfl hl.1 rfl (Nat.le_of_ble_eq_true rfl) dX11_rule_2 ⟨Nat.le_of_ble_eq_true rfl, Nat.le_of_ble_eq_true rfl⟩ (fun x_21 f_22 H locs hw hP hD hS => ?_)
  obtain ⟨rfl, bx_21, relx_21⟩ := hw
  refine lv_if_ne (tgt := 10) hx hb dX11_rule_5 (by decide) (fun c_24 => ?_) (fun c_24 => ?_)
  · skip
    rw [← Int32.toInt_inj, ti_0] at c_24
    refine lv_aload_n hx hb dX11_rule_10 rfl (lv_at hl 0 rfl) ?_
    refine tk_getP (D := (dC, dI)) (ci := 11) (v := .ref a_5) (C := RX11) (T := TX11) (N := 19) hx hb hU inlX11 hown hK hP mo0 hfo_1 rfl 3 (by decide) (hU _ wd_19) (fun _ h9 => h9) rfl dX11_rule_11 ?_
    obtain ⟨a_26, v_27, a_28, a_29, a_30, a_31, v_32, a_33, a_34, a_35, a_36, a_37, v_38, a_39, a_40, a_41, hfo_25, ⟨ma_26, ka_26⟩, bv_27, ⟨ma_28, ka_28⟩, ⟨ma_29, ka_29⟩, ⟨ma_30, ka_30⟩, ⟨ma_31, ka_31⟩, bv_32, ⟨ma_33, ka_33⟩, ⟨ma_34, ka_34⟩, ⟨ma_35, ka_35⟩, ⟨ma_36, ka_36⟩, ⟨ma_37, ka_37⟩, bv_38, ⟨ma_39, ka_39⟩, ⟨ma_40, ka_40⟩, ⟨ma_41, ka_41⟩⟩ := un_7 (hG _ ma_5) ka_5
    refine tk_getP (D := (dC, dI)) (ci := 7) (v := .ref a_37) (C := RX7) (T := TX7) (N := 16) hx hb hU inlX7 hown hK hP ma_5 hfo_25 rfl 11 (by decide) (hU _ wd_1070) (fun _ h9 => h9) rfl dX11_rule_14 ?_
    refine lv_iload_n hx hb dX11_rule_17 rfl (lv_at hl 1 rfl) ?_
    obtain ⟨g_43, hfo_42, hbg_43⟩ := un_515 (hG _ ma_37) ka_37
    obtain ⟨a_44, hga_44, ma_44, ka_44⟩ := hbg_43 (Int32.toNatClampNeg p1) (in_lt (vp_in_iff.mpr (by constructor <;> omega)))
    refine tk_aldP hx hb hK hP 3 ma_37 hfo_42 rfl (vp_in_iff.mpr (by constructor <;> omega)) hga_44 dX11_rule_18 ?_
    refine lv_astore_n (lv' := [(3, .ref a_44), (0, .ref o0), (1, .int p1), (2, .int p2)]) hx hb dX11_rule_19 rfl hl (by decide) rfl (fun ls hl => ?_)
    refine lv_iload_n hx hb dX11_rule_20 rfl (lv_at hl 3 rfl) ?_
    by_cases c_45 : p2 = 0
    · refine tk_topi (y := 0) c_45 ?_
      refine lv_tableIn (tgt := 56) hx hb dX11_rule_21 (by decide) (by decide) rfl (by decide) ?_
      refine lv_aload_n hx hb dX11_rule_56 rfl (lv_at hl 0 rfl) ?_
      obtain ⟨v_47, v_48, v_49, v_50, a_51, a_52, a_53, a_54, v_55, v_56, v_57, hfo_46, bv_47, bv_48, bv_49, bv_50, ⟨ma_51, ka_51⟩, ⟨ma_52, ka_52⟩, ⟨ma_53, ka_53⟩, ⟨ma_54, ka_54⟩⟩ := un_4 (hG _ ma_44) ka_44
      have bv_55 : ((-2147483648) ≤ v_55.toInt ∧ v_55.toInt ≤ 2147483647) := ⟨i32_lo _, i32_hi _⟩
      have bv_56 : ((-2147483648) ≤ v_56.toInt ∧ v_56.toInt ≤ 2147483647) := ⟨i32_lo _, i32_hi _⟩
      have bv_57 : ((-2147483648) ≤ v_57.toInt ∧ v_57.toInt ≤ 2147483647) := ⟨i32_lo _, i32_hi _⟩
      refine tk_getP (D := (dC, dI)) (ci := 4) (v := .int v_47) (C := RX4) (T := TX4) (N := 11) hx hb hU inlX4 hown hK hP ma_44 hfo_46 rfl 0 (by decide) (hU _ wd_1460) (fun _ h9 => h9) rfl dX11_rule_57 ?_
      exact W.iret (v := v_47) hx hb hr (fun t ht hW => ⟨⟨v_47, f, rfl, ⟨rfl, (by constructor <;> omega)⟩, by rw [ht]; exact hP, va_K.moved hW.alike hK, pl_in hD⟩, hS.F ht⟩) hS.2.2 dX11_rule_60
    by_cases c_58 : p2 = 1
    · refine tk_topi (y := 1) c_58 ?_
      refine lv_tableIn (tgt := 61) hx hb dX11_rule_21 (by decide) (by decide) rfl (by decide) ?_
      refine lv_aload_n hx hb dX11_rule_61 rfl (lv_at hl 0 rfl) ?_
      obtain ⟨v_60, v_61, v_62, v_63, a_64, a_65, a_66, a_67, v_68, v_69, v_70, hfo_59, bv_60, bv_61, bv_62, bv_63, ⟨ma_64, ka_64⟩, ⟨ma_65, ka_65⟩, ⟨ma_66, ka_66⟩, ⟨ma_67, ka_67⟩⟩ := un_4 (hG _ ma_44) ka_44
      have bv_68 : ((-2147483648) ≤ v_68.toInt ∧ v_68.toInt ≤ 2147483647) := ⟨i32_lo _, i32_hi _⟩
      have bv_69 : ((-2147483648) ≤ v_69.toInt ∧ v_69.toInt ≤ 2147483647) := ⟨i32_lo _, i32_hi _⟩
      have bv_70 : ((-2147483648) ≤ v_70.toInt ∧ v_70.toInt ≤ 2147483647) := ⟨i32_lo _, i32_hi _⟩
      refine tk_getP (D := (dC, dI)) (ci := 4) (v := .int v_61) (C := RX4) (T := TX4) (N := 11) hx hb hU inlX4 hown hK hP ma_44 hfo_59 rfl 1 (by decide) (hU _ wd_1461) (fun _ h9 => h9) rfl dX11_rule_62 ?_
      exact W.iret (v := v_61) hx hb hr (fun t ht hW => ⟨⟨v_61, f, rfl, ⟨rfl, (by constructor <;> omega)⟩, by rw [ht]; exact hP, va_K.moved hW.alike hK, pl_in hD⟩, hS.F ht⟩) hS.2.2 dX11_rule_65
    by_cases c_71 : p2 = 2
    · refine tk_topi (y := 2) c_71 ?_
      refine lv_tableIn (tgt := 66) hx hb dX11_rule_21 (by decide) (by decide) rfl (by decide) ?_
      refine lv_aload_n hx hb dX11_rule_66 rfl (lv_at hl 0 rfl) ?_
      obtain ⟨v_73, v_74, v_75, v_76, a_77, a_78, a_79, a_80, v_81, v_82, v_83, hfo_72, bv_73, bv_74, bv_75, bv_76, ⟨ma_77, ka_77⟩, ⟨ma_78, ka_78⟩, ⟨ma_79, ka_79⟩, ⟨ma_80, ka_80⟩⟩ := un_4 (hG _ ma_44) ka_44
      have bv_81 : ((-2147483648) ≤ v_81.toInt ∧ v_81.toInt ≤ 2147483647) := ⟨i32_lo _, i32_hi _⟩
      have bv_82 : ((-2147483648) ≤ v_82.toInt ∧ v_82.toInt ≤ 2147483647) := ⟨i32_lo _, i32_hi _⟩
      have bv_83 : ((-2147483648) ≤ v_83.toInt ∧ v_83.toInt ≤ 2147483647) := ⟨i32_lo _, i32_hi _⟩
      refine tk_getP (D := (dC, dI)) (ci := 4) (v := .int v_75) (C := RX4) (T := TX4) (N := 11) hx hb hU inlX4 hown hK hP ma_44 hfo_72 rfl 2 (by decide) (hU _ wd_1462) (fun _ h9 => h9) rfl dX11_rule_67 ?_
      exact W.iret (v := v_75) hx hb hr (fun t ht hW => ⟨⟨v_75, f, rfl, ⟨rfl, (by constructor <;> omega)⟩, by rw [ht]; exact hP, va_K.moved hW.alike hK, pl_in hD⟩, hS.F ht⟩) hS.2.2 dX11_rule_70
    by_cases c_84 : p2 = 3
    · refine tk_topi (y := 3) c_84 ?_
      refine lv_tableIn (tgt := 71) hx hb dX11_rule_21 (by decide) (by decide) rfl (by decide) ?_
      refine lv_aload_n hx hb dX11_rule_71 rfl (lv_at hl 0 rfl) ?_
      obtain ⟨v_86, v_87, v_88, v_89, a_90, a_91, a_92, a_93, v_94, v_95, v_96, hfo_85, bv_86, bv_87, bv_88, bv_89, ⟨ma_90, ka_90⟩, ⟨ma_91, ka_91⟩, ⟨ma_92, ka_92⟩, ⟨ma_93, ka_93⟩⟩ := un_4 (hG _ ma_44) ka_44
      have bv_94 : ((-2147483648) ≤ v_94.toInt ∧ v_94.toInt ≤ 2147483647) := ⟨i32_lo _, i32_hi _⟩
      have bv_95 : ((-2147483648) ≤ v_95.toInt ∧ v_95.toInt ≤ 2147483647) := ⟨i32_lo _, i32_hi _⟩
      have bv_96 : ((-2147483648) ≤ v_96.toInt ∧ v_96.toInt ≤ 2147483647) := ⟨i32_lo _, i32_hi _⟩
      refine tk_getP (D := (dC, dI)) (ci := 4) (v := .int v_89) (C := RX4) (T := TX4) (N := 11) hx hb hU inlX4 hown hK hP ma_44 hfo_85 rfl 3 (by decide) (hU _ wd_1463) (fun _ h9 => h9) rfl dX11_rule_72 ?_
      exact W.iret (v := v_89) hx hb hr (fun t ht hW => ⟨⟨v_89, f, rfl, ⟨rfl, (by constructor <;> omega)⟩, by rw [ht]; exact hP, va_K.moved hW.alike hK, pl_in hD⟩, hS.F ht⟩) hS.2.2 dX11_rule_75
    by_cases c_97 : p2 = 4
    · refine tk_topi (y := 4) c_97 ?_
      refine lv_tableIn (tgt := 76) hx hb dX11_rule_21 (by decide) (by decide) rfl (by decide) ?_
      refine lv_aload_n hx hb dX11_rule_76 rfl (lv_at hl 1 rfl) ?_
      refine tk_getP (D := (dC, dI)) (ci := 11) (v := .ref a_7) (C := RX11) (T := TX11) (N := 19) hx hb hU inlX11 hown hK hP mo0 hfo_1 rfl 5 (by decide) (hU _ wd_25) (fun _ h9 => h9) rfl dX11_rule_77 ?_
      obtain ⟨v_99, v_100, a_101, a_102, a_103, v_104, a_105, a_106, a_107, hfo_98, bv_100, ⟨ma_101, ka_101⟩, ⟨ma_102, ka_102⟩, ⟨ma_103, ka_103⟩, ⟨ma_105, ka_105⟩, ⟨ma_106, ka_106⟩, ⟨ma_107, ka_107⟩⟩ := un_6 (hG _ ma_7) ka_7
      have bv_99 : ((-2147483648) ≤ v_99.toInt ∧ v_99.toInt ≤ 2147483647) := ⟨i32_lo _, i32_hi _⟩
      have bv_104 : ((-2147483648) ≤ v_104.toInt ∧ v_104.toInt ≤ 2147483647) := ⟨i32_lo _, i32_hi _⟩
      refine tk_getP (D := (dC, dI)) (ci := 6) (v := .int v_99) (C := RX6) (T := TX6) (N := 9) hx hb hU inlX6 hown hK hP ma_7 hfo_98 rfl 0 (by decide) (hU _ wd_677) (fun _ h9 => h9) rfl dX11_rule_80 ?_
      refine lv_iload_n hx hb dX11_rule_83 rfl (lv_at hl 2 rfl) ?_
      refine lv_ishr hx hb dX11_rule_84 ?_
      refine lv_topi (fun x_108 ex_108 => ?_)
      have bx_108 : ((-2147483648) ≤ x_108.toInt ∧ x_108.toInt ≤ 2147483647) := ⟨i32_lo _, i32_hi _⟩
      refine lv_iconst (v := 1) hx hb dX11_rule_85 (by decide) ?_
      refine lv_iand hx hb dX11_rule_86 ?_
      refine lv_topi (fun x_109 ex_109 => ?_)
      have bx_109 : (0 ≤ x_109.toInt ∧ x_109.toInt ≤ 1) := by rw [ex_109]; have h8 := an_C x_108 (m := 1) (by decide); rw [ti_1] at h8; exact h8
      exact W.iret (v := x_109) hx hb hr (fun t ht hW => ⟨⟨x_109, f, rfl, ⟨rfl, (by constructor <;> omega)⟩, by rw [ht]; exact hP, va_K.moved hW.alike hK, pl_in hD⟩, hS.F ht⟩) hS.2.2 dX11_rule_87
    rw [← Int32.toInt_inj, ti_0] at c_45
    rw [← Int32.toInt_inj, ti_1] at c_58
    rw [← Int32.toInt_inj, ti_2] at c_71
    rw [← Int32.toInt_inj, ti_3] at c_84
    rw [← Int32.toInt_inj, ti_4] at c_97
    refine lv_tableOut (tgt := 88) hx hb dX11_rule_21 (by omega) (by decide) ?_
    refine lv_iconst (v := (-1)) hx hb dX11_rule_88 (by decide) ?_
    exact W.iret (v := (-1)) hx hb hr (fun t ht hW => ⟨⟨(-1), f, rfl, ⟨rfl, (by decide)⟩, by rw [ht]; exact hP, va_K.moved hW.alike hK, pl_in hD⟩, hS.F ht⟩) hS.2.2 dX11_rule_89
  · skip
    rw [← Int32.toInt_inj, ti_0] at c_24
    refine lv_iconst (v := (-1)) hx hb dX11_rule_8 (by decide) ?_
    exact W.iret (v := (-1)) hx hb hr (fun t ht hW => ⟨⟨(-1), f, rfl, ⟨rfl, (by decide)⟩, by rw [ht]; exact hP, va_K.moved hW.alike hK, pl_in hD⟩, hS.F ht⟩) hS.2.2 dX11_rule_9
set_option maxHeartbeats 8000000 in
set_option maxRecDepth 100000 in
theorem s_X11_order_k11 (l : Launch) (D : va_G) (cI cL cZ cR cG cH : ClassId) (Z : zT) (kd : Nat → Nat) (L : List Nat) (f : Nat → va_E) (hG : GI (okc cI cL cZ cR cG cH L kd) kd L f) (o0 : Nat) (mo0 : o0 ∈ L) (ko0 : kd o0 = 11) (p1 : Int32) (p2 : Int32) : mPI l D cI cL cZ cR cG cH Z yX11_order cX11_order 3 (some .boolean) 1 24 [.ref o0, .int p1, .int p2] L f (fun (r : Int32) (f9 : Nat → va_E) => GI (okc cI cL cZ cR cG cH L kd) kd L f9 ∧ (0 ≤ r.toInt ∧ r.toInt ≤ 1) ∧ (∀ b, kd b ≠ 530 → f9 b = f b)) := by
  obtain ⟨dC, dI⟩ := D
  refine Met.ofW (cc := cX11_order) (maxL := 3) (ret := (some .boolean)) (by decide) rfl ?_
  intro p e s m args below meth c s₁ B hml hv
  obtain ⟨rfl, hP, hK, hD0, hN, hZ⟩ := hv
  have hx := B.exec
  have hb := B.bytes
  have hr := B.returns
  have hU : ∀ w ∈ wsU, w.before _ s = true := fun w h => atoms_spec (ws := wU yX11_order cX11_order 3 (some .boolean)) B.pre w (List.mem_cons_of_mem _ h)
  have hown : s.vm.findClass RX11 = some m.cls := findClass_of_methodNamed B.named
  have hlocks := B.notSynchronized
  have hD := pl_in hD0
  have hS : va_S (fun q => q ∈ L) s.heap s.heap [] := va_S.rf
  have hl := lv_entry ([.ref o0, .int p1, .int p2]) (n := 3) (Nat.le_of_ble_eq_true rfl)
  rw [lg_entry_eq]
  generalize (lg_sl ([.ref o0, .int p1, .int p2]) ++ List.replicate (3 - (lg_sl ([.ref o0, .int p1, .int p2])).length) Slot.unset).toArray = ls at hl ⊢
  have hl : lv_has ls 3 [(0, .ref o0), (1, .int p1), (2, .int p2)] := hl
  have bp1 : ((-2147483648) ≤ p1.toInt ∧ p1.toInt ≤ 2147483647) := ⟨i32_lo _, i32_hi _⟩
  have bp2 : ((-2147483648) ≤ p2.toInt ∧ p2.toInt ≤ 2147483647) := ⟨i32_lo _, i32_hi _⟩
  have hfr0 : ∀ b, kd b ≠ 530 → f b = f b := fun _ _ => rfl
  refine lv_aload_n hx hb dX11_order_0 rfl (lv_at hl 0 rfl) ?_
  refine lv_iload_n hx hb dX11_order_1 rfl (lv_at hl 1 rfl) ?_
  obtain ⟨a_2, v_3, a_4, a_5, a_6, a_7, a_8, a_9, v_10, a_11, a_12, a_13, v_14, v_15, a_16, v_17, a_18, a_19, v_20, hfo_1, ⟨ma_2, ka_2⟩, bv_3, ⟨ma_4, ka_4⟩, ⟨ma_5, ka_5⟩, ⟨ma_6, ka_6⟩, ⟨ma_7, ka_7⟩, ⟨ma_8, ka_8⟩, ⟨ma_9, ka_9⟩, bv_10, ⟨ma_11, ka_11⟩, ⟨ma_12, ka_12⟩, ⟨ma_13, ka_13⟩, bv_14, ⟨ma_16, ka_16⟩, bv_17, ⟨ma_18, ka_18⟩, ⟨ma_19, ka_19⟩⟩ := un_11 (hG _ mo0) ko0
  have bv_15 : ((-2147483648) ≤ v_15.toInt ∧ v_15.toInt ≤ 2147483647) := ⟨i32_lo _, i32_hi _⟩
  have bv_20 : ((-2147483648) ≤ v_20.toInt ∧ v_20.toInt ≤ 2147483647) := ⟨i32_lo _, i32_hi _⟩
  refine tk_ViP (As := [.int p1]) (rest := []) (n := 1) hx hb hml hown hU hN hZ (s_X11_isRule_k11 l (dC, dI) cI cL cZ cR cG cH Z kd L f hG o0 mo0 ko0 p1) wd_1135 wd_1136 wd_1137 wd_2 wd_1138 (by decide +kernel) ⟨Nat.le_of_ble_eq_true rfl, Nat.le_of_ble_eq_true rfl⟩ hK hP hD hS mo0 hfo_1 11 rfl rfl rfl hl.1 rfl (Nat.le_of_ble_eq_true rfl) dX11_order_2 ⟨Nat.le_of_ble_eq_true rfl, Nat.le_of_ble_eq_true rfl⟩ (fun x_21 f_22 H locs hw hP hD hS => ?_)
  obtain ⟨rfl, bx_21, relx_21⟩ := hw
  refine lv_if_eq (tgt := 16) hx hb dX11_order_5 (by decide) (fun c_24 => ?_) (fun c_24 => ?_)
  · skip
    rw [← Int32.toInt_inj, ti_0] at c_24
    refine lv_iconst (v := 0) hx hb dX11_order_16 (by decide) ?_
    exact W.zret (v := 0) (ty := .boolean) hx hb hr rfl (fun t ht hW => ⟨⟨0, f, rfl, ⟨hG, (by decide), hfr0⟩, by rw [ht]; exact hP, va_K.moved hW.alike hK, pl_in hD⟩, hS.F ht⟩) hS.2.2 dX11_order_17
  · skip
    rw [← Int32.toInt_inj, ti_0] at c_24
    refine lv_aload_n hx hb dX11_order_8 rfl (lv_at hl 0 rfl) ?_
    refine lv_iload_n hx hb dX11_order_9 rfl (lv_at hl 2 rfl) ?_
    refine tk_ViP (As := [.int p2]) (rest := []) (n := 1) hx hb hml hown hU hN hZ (s_X11_isRule_k11 l (dC, dI) cI cL cZ cR cG cH Z kd L f hG o0 mo0 ko0 p2) wd_1135 wd_1136 wd_1137 wd_2 wd_1138 (by decide +kernel) ⟨Nat.le_of_ble_eq_true rfl, Nat.le_of_ble_eq_true rfl⟩ hK hP hD hS mo0 hfo_1 11 rfl rfl rfl hl.1 rfl (Nat.le_of_ble_eq_true rfl) dX11_order_10 ⟨Nat.le_of_ble_eq_true rfl, Nat.le_of_ble_eq_true rfl⟩ (fun x_25 f_26 H locs hw hP hD hS => ?_)
    obtain ⟨rfl, bx_25, relx_25⟩ := hw
    refine lv_if_ne (tgt := 18) hx hb dX11_order_13 (by decide) (fun c_28 => ?_) (fun c_28 => ?_)
    · skip
      rw [← Int32.toInt_inj, ti_0] at c_28
      refine lv_aload_n hx hb dX11_order_18 rfl (lv_at hl 0 rfl) ?_
      refine tk_getP (D := (dC, dI)) (ci := 11) (v := .ref a_7) (C := RX11) (T := TX11) (N := 19) hx hb hU inlX11 hown hK hP mo0 hfo_1 rfl 5 (by decide) (hU _ wd_25) (fun _ h9 => h9) rfl dX11_order_19 ?_
      refine lv_iload_n hx hb dX11_order_22 rfl (lv_at hl 1 rfl) ?_
      refine lv_iload_n hx hb dX11_order_23 rfl (lv_at hl 2 rfl) ?_
      refine lv_aload_n hx hb dX11_order_24 rfl (lv_at hl 0 rfl) ?_
      refine tk_getP (D := (dC, dI)) (ci := 11) (v := .ref a_5) (C := RX11) (T := TX11) (N := 19) hx hb hU inlX11 hown hK hP mo0 hfo_1 rfl 3 (by decide) (hU _ wd_19) (fun _ h9 => h9) rfl dX11_order_25 ?_
      obtain ⟨a_30, v_31, a_32, a_33, a_34, a_35, v_36, a_37, a_38, a_39, a_40, a_41, v_42, a_43, a_44, a_45, hfo_29, ⟨ma_30, ka_30⟩, bv_31, ⟨ma_32, ka_32⟩, ⟨ma_33, ka_33⟩, ⟨ma_34, ka_34⟩, ⟨ma_35, ka_35⟩, bv_36, ⟨ma_37, ka_37⟩, ⟨ma_38, ka_38⟩, ⟨ma_39, ka_39⟩, ⟨ma_40, ka_40⟩, ⟨ma_41, ka_41⟩, bv_42, ⟨ma_43, ka_43⟩, ⟨ma_44, ka_44⟩, ⟨ma_45, ka_45⟩⟩ := un_7 (hG _ ma_5) ka_5
      refine tk_getP (D := (dC, dI)) (ci := 7) (v := .int v_42) (C := RX7) (T := TX7) (N := 16) hx hb hU inlX7 hown hK hP ma_5 hfo_29 rfl 12 (by decide) (hU _ wd_235) (fun _ h9 => h9) rfl dX11_order_28 ?_
      obtain ⟨v_47, v_48, a_49, a_50, a_51, v_52, a_53, a_54, a_55, hfo_46, bv_48, ⟨ma_49, ka_49⟩, ⟨ma_50, ka_50⟩, ⟨ma_51, ka_51⟩, ⟨ma_53, ka_53⟩, ⟨ma_54, ka_54⟩, ⟨ma_55, ka_55⟩⟩ := un_6 (hG _ ma_7) ka_7
      have bv_47 : ((-2147483648) ≤ v_47.toInt ∧ v_47.toInt ≤ 2147483647) := ⟨i32_lo _, i32_hi _⟩
      have bv_52 : ((-2147483648) ≤ v_52.toInt ∧ v_52.toInt ≤ 2147483647) := ⟨i32_lo _, i32_hi _⟩
      refine tk_VvP (As := [.int p1, .int p2, .int v_42]) (rest := []) (n := 3) hx hb hml hown hU hN hZ (s_X6_moveRule_k6 l (dC, dI) cI cL cZ cR cG cH Z kd L f hG a_7 ma_7 ka_7 p1 (by constructor <;> omega) p2 (by constructor <;> omega) v_42 (by constructor <;> omega)) wd_1139 wd_1140 wd_1141 wd_24 wd_1142 (by decide +kernel) ⟨Nat.le_of_ble_eq_true rfl, Nat.le_of_ble_eq_true rfl⟩ hK hP hD hS ma_7 hfo_46 6 rfl rfl rfl hl.1 rfl (Nat.le_of_ble_eq_true rfl) dX11_order_31 ⟨Nat.le_of_ble_eq_true rfl, Nat.le_of_ble_eq_true rfl⟩ (fun f_57 H locs hw hP hD hS => ?_)
      obtain ⟨hG, hkc_58⟩ := hw
      have hfo_60 : f_57 o0 = .inr (11, [.ref a_2, .int v_3, .ref a_4, .ref a_5, .ref a_6, .ref a_7, .ref a_8, .ref a_9, .int v_10, .ref a_11, .ref a_12, .ref a_13, .int v_14, .int v_15, .ref a_16, .int v_17, .ref a_18, .ref a_19, .int v_20]) := by rw [hkc_58 o0 (by rw [ko0]; decide)]; exact hfo_1
      have hfo_61 : f_57 a_5 = .inr (7, [.ref a_30, .int v_31, .ref a_32, .ref a_33, .ref a_34, .ref a_35, .int v_36, .ref a_37, .ref a_38, .ref a_39, .ref a_40, .ref a_41, .int v_42, .ref a_43, .ref a_44, .ref a_45]) := by rw [hkc_58 a_5 (by rw [ka_5]; decide)]; exact hfo_29
      have hfo_62 : f_57 a_7 = .inr (6, [.int v_47, .int v_48, .ref a_49, .ref a_50, .ref a_51, .int v_52, .ref a_53, .ref a_54, .ref a_55]) := by rw [hkc_58 a_7 (by rw [ka_7]; decide)]; exact hfo_46
      have hfr0 : ∀ b, kd b ≠ 530 → f_57 b = f b := fun b q530 => (hkc_58 b q530).trans (hfr0 b q530)
      refine lv_iconst (v := 1) hx hb dX11_order_34 (by decide) ?_
      exact W.zret (v := 1) (ty := .boolean) hx hb hr rfl (fun t ht hW => ⟨⟨1, f_57, rfl, ⟨hG, (by decide), hfr0⟩, by rw [ht]; exact hP, va_K.moved hW.alike hK, pl_in hD⟩, hS.F ht⟩) hS.2.2 dX11_order_35
    · skip
      rw [← Int32.toInt_inj, ti_0] at c_28
      refine lv_iconst (v := 0) hx hb dX11_order_16 (by decide) ?_
      exact W.zret (v := 0) (ty := .boolean) hx hb hr rfl (fun t ht hW => ⟨⟨0, f, rfl, ⟨hG, (by decide), hfr0⟩, by rw [ht]; exact hP, va_K.moved hW.alike hK, pl_in hD⟩, hS.F ht⟩) hS.2.2 dX11_order_17
set_option maxHeartbeats 8000000 in
set_option maxRecDepth 100000 in
theorem s_X11_meant_k11 (l : Launch) (D : va_G) (cI cL cZ cR cG cH : ClassId) (Z : zT) (kd : Nat → Nat) (L : List Nat) (f : Nat → va_E) (hG : GI (okc cI cL cZ cR cG cH L kd) kd L f) (o0 : Nat) (mo0 : o0 ∈ L) (ko0 : kd o0 = 11) (p1 : Int32) (p2 : Int32) : mPI l D cI cL cZ cR cG cH Z yX11_meant cX11_meant 3 (some .int) 0 0 [.ref o0, .int p1, .int p2] L f (fun (r : Int32) (f9 : Nat → va_E) => f = f9 ∧ ((-2147483648) ≤ r.toInt ∧ r.toInt ≤ 2147483647)) := by
  obtain ⟨dC, dI⟩ := D
  refine Met.ofW (cc := cX11_meant) (maxL := 3) (ret := (some .int)) (by decide) rfl ?_
  intro p e s m args below meth c s₁ B hml hv
  obtain ⟨rfl, hP, hK, hD0, hN, hZ⟩ := hv
  have hx := B.exec
  have hb := B.bytes
  have hr := B.returns
  have hU : ∀ w ∈ wsU, w.before _ s = true := fun w h => atoms_spec (ws := wU yX11_meant cX11_meant 3 (some .int)) B.pre w (List.mem_cons_of_mem _ h)
  have hown : s.vm.findClass RX11 = some m.cls := findClass_of_methodNamed B.named
  have hlocks := B.notSynchronized
  have hD := pl_in hD0
  have hS : va_S (fun q => q ∈ L) s.heap s.heap [] := va_S.rf
  have hl := lv_entry ([.ref o0, .int p1, .int p2]) (n := 3) (Nat.le_of_ble_eq_true rfl)
  rw [lg_entry_eq]
  generalize (lg_sl ([.ref o0, .int p1, .int p2]) ++ List.replicate (3 - (lg_sl ([.ref o0, .int p1, .int p2])).length) Slot.unset).toArray = ls at hl ⊢
  have hl : lv_has ls 3 [(0, .ref o0), (1, .int p1), (2, .int p2)] := hl
  have bp1 : ((-2147483648) ≤ p1.toInt ∧ p1.toInt ≤ 2147483647) := ⟨i32_lo _, i32_hi _⟩
  have bp2 : ((-2147483648) ≤ p2.toInt ∧ p2.toInt ≤ 2147483647) := ⟨i32_lo _, i32_hi _⟩
  refine lv_iload_n hx hb dX11_meant_0 rfl (lv_at hl 1 rfl) ?_
  refine lv_if_lt (tgt := 21) hx hb dX11_meant_1 (by decide) (fun c_1 => ?_) (fun c_1 => ?_)
  · skip
    rw [Int32.lt_iff_toInt_lt, ti_0] at c_1
    refine lv_iconst (v := (-1)) hx hb dX11_meant_21 (by decide) ?_
    exact W.iret (v := (-1)) hx hb hr (fun t ht hW => ⟨⟨(-1), f, rfl, ⟨rfl, (by decide)⟩, by rw [ht]; exact hP, va_K.moved hW.alike hK, pl_in hD⟩, hS.F ht⟩) hS.2.2 dX11_meant_22
  · skip
    rw [Int32.lt_iff_toInt_lt, ti_0] at c_1
    refine lv_iload_n hx hb dX11_meant_4 rfl (lv_at hl 1 rfl) ?_
    refine lv_aload_n hx hb dX11_meant_5 rfl (lv_at hl 0 rfl) ?_
    obtain ⟨a_3, v_4, a_5, a_6, a_7, a_8, a_9, a_10, v_11, a_12, a_13, a_14, v_15, v_16, a_17, v_18, a_19, a_20, v_21, hfo_2, ⟨ma_3, ka_3⟩, bv_4, ⟨ma_5, ka_5⟩, ⟨ma_6, ka_6⟩, ⟨ma_7, ka_7⟩, ⟨ma_8, ka_8⟩, ⟨ma_9, ka_9⟩, ⟨ma_10, ka_10⟩, bv_11, ⟨ma_12, ka_12⟩, ⟨ma_13, ka_13⟩, ⟨ma_14, ka_14⟩, bv_15, ⟨ma_17, ka_17⟩, bv_18, ⟨ma_19, ka_19⟩, ⟨ma_20, ka_20⟩⟩ := un_11 (hG _ mo0) ko0
    have bv_16 : ((-2147483648) ≤ v_16.toInt ∧ v_16.toInt ≤ 2147483647) := ⟨i32_lo _, i32_hi _⟩
    have bv_21 : ((-2147483648) ≤ v_21.toInt ∧ v_21.toInt ≤ 2147483647) := ⟨i32_lo _, i32_hi _⟩
    refine tk_getP (D := (dC, dI)) (ci := 11) (v := .int v_15) (C := RX11) (T := TX11) (N := 19) hx hb hU inlX11 hown hK hP mo0 hfo_2 rfl 12 (by decide) (hU _ wd_237) (fun _ h9 => h9) rfl dX11_meant_6 ?_
    refine lv_icmp_ge (tgt := 21) hx hb dX11_meant_9 (by decide) (fun c_22 => ?_) (fun c_22 => ?_)
    · skip
      rw [Int32.le_iff_toInt_le] at c_22
      refine lv_iconst (v := (-1)) hx hb dX11_meant_21 (by decide) ?_
      exact W.iret (v := (-1)) hx hb hr (fun t ht hW => ⟨⟨(-1), f, rfl, ⟨rfl, (by decide)⟩, by rw [ht]; exact hP, va_K.moved hW.alike hK, pl_in hD⟩, hS.F ht⟩) hS.2.2 dX11_meant_22
    · skip
      rw [Int32.le_iff_toInt_le] at c_22
      refine lv_iload_n hx hb dX11_meant_12 rfl (lv_at hl 2 rfl) ?_
      refine lv_if_eq (tgt := 23) hx hb dX11_meant_13 (by decide) (fun c_23 => ?_) (fun c_23 => ?_)
      · skip
        rw [← Int32.toInt_inj, ti_0] at c_23
        refine lv_iload_n hx hb dX11_meant_23 rfl (lv_at hl 2 rfl) ?_
        refine lv_if_ne (tgt := 39) hx hb dX11_meant_24 (by decide) (fun c_24 => ?_) (fun c_24 => ?_)
        · skip
          rw [← Int32.toInt_inj, ti_0] at c_24
          exfalso
          omega
        · skip
          rw [← Int32.toInt_inj, ti_0] at c_24
          refine lv_aload_n hx hb dX11_meant_27 rfl (lv_at hl 0 rfl) ?_
          refine tk_getP (D := (dC, dI)) (ci := 11) (v := .ref a_14) (C := RX11) (T := TX11) (N := 19) hx hb hU inlX11 hown hK hP mo0 hfo_2 rfl 11 (by decide) (hU _ wd_39) (fun _ h9 => h9) rfl dX11_meant_28 ?_
          refine lv_iload_n hx hb dX11_meant_31 rfl (lv_at hl 1 rfl) ?_
          obtain ⟨g_26, hfo_25, hbg_26⟩ := un_539 (hG _ ma_14) ka_14
          refine tk_ildP hx hb hK hP 0 ma_14 hfo_25 rfl (vp_in_iff.mpr (by constructor <;> omega)) dX11_meant_32 ?_
          refine lv_topi (fun x_27 ex_27 => ?_)
          have bx_27 : ((-2147483648) ≤ x_27.toInt ∧ x_27.toInt ≤ 2147483647) := ⟨i32_lo _, i32_hi _⟩
          refine lv_bipush (v := 8) hx hb dX11_meant_33 (by decide) ?_
          refine lv_idiv hx hb dX11_meant_35 (by decide) ?_
          refine lv_topi (fun x_28 ex_28 => ?_)
          have bx_28 : ((-2147483648) ≤ x_28.toInt ∧ x_28.toInt ≤ 2147483647) := ⟨i32_lo _, i32_hi _⟩
          refine lv_goto (tgt := 48) hx hb dX11_meant_36 (by decide) ?_
          exact W.iret (v := x_28) hx hb hr (fun t ht hW => ⟨⟨x_28, f, rfl, ⟨rfl, (by constructor <;> omega)⟩, by rw [ht]; exact hP, va_K.moved hW.alike hK, pl_in hD⟩, hS.F ht⟩) hS.2.2 dX11_meant_48
      · skip
        rw [← Int32.toInt_inj, ti_0] at c_23
        refine lv_iload_n hx hb dX11_meant_16 rfl (lv_at hl 2 rfl) ?_
        refine lv_iconst (v := 1) hx hb dX11_meant_17 (by decide) ?_
        refine lv_icmp_eq (tgt := 23) hx hb dX11_meant_18 (by decide) (fun c_29 => ?_) (fun c_29 => ?_)
        · skip
          rw [← Int32.toInt_inj, ti_1] at c_29
          refine lv_iload_n hx hb dX11_meant_23 rfl (lv_at hl 2 rfl) ?_
          refine lv_if_ne (tgt := 39) hx hb dX11_meant_24 (by decide) (fun c_30 => ?_) (fun c_30 => ?_)
          · skip
            rw [← Int32.toInt_inj, ti_0] at c_30
            refine lv_aload_n hx hb dX11_meant_39 rfl (lv_at hl 0 rfl) ?_
            refine tk_getP (D := (dC, dI)) (ci := 11) (v := .ref a_14) (C := RX11) (T := TX11) (N := 19) hx hb hU inlX11 hown hK hP mo0 hfo_2 rfl 11 (by decide) (hU _ wd_39) (fun _ h9 => h9) rfl dX11_meant_40 ?_
            refine lv_iload_n hx hb dX11_meant_43 rfl (lv_at hl 1 rfl) ?_
            obtain ⟨g_32, hfo_31, hbg_32⟩ := un_539 (hG _ ma_14) ka_14
            refine tk_ildP hx hb hK hP 0 ma_14 hfo_31 rfl (vp_in_iff.mpr (by constructor <;> omega)) dX11_meant_44 ?_
            refine lv_topi (fun x_33 ex_33 => ?_)
            have bx_33 : ((-2147483648) ≤ x_33.toInt ∧ x_33.toInt ≤ 2147483647) := ⟨i32_lo _, i32_hi _⟩
            refine lv_bipush (v := 8) hx hb dX11_meant_45 (by decide) ?_
            refine lv_irem hx hb dX11_meant_47 (by decide) ?_
            refine lv_topi (fun x_34 ex_34 => ?_)
            have bx_34 : ((-2147483648) ≤ x_34.toInt ∧ x_34.toInt ≤ 2147483647) := ⟨i32_lo _, i32_hi _⟩
            exact W.iret (v := x_34) hx hb hr (fun t ht hW => ⟨⟨x_34, f, rfl, ⟨rfl, (by constructor <;> omega)⟩, by rw [ht]; exact hP, va_K.moved hW.alike hK, pl_in hD⟩, hS.F ht⟩) hS.2.2 dX11_meant_48
          · skip
            rw [← Int32.toInt_inj, ti_0] at c_30
            exfalso
            omega
        · skip
          rw [← Int32.toInt_inj, ti_1] at c_29
          refine lv_iconst (v := (-1)) hx hb dX11_meant_21 (by decide) ?_
          exact W.iret (v := (-1)) hx hb hr (fun t ht hW => ⟨⟨(-1), f, rfl, ⟨rfl, (by decide)⟩, by rw [ht]; exact hP, va_K.moved hW.alike hK, pl_in hD⟩, hS.F ht⟩) hS.2.2 dX11_meant_22
