set_option maxHeartbeats 8000000 in
set_option maxRecDepth 100000 in
theorem s_X11_example_k11 (l : Launch) (D : va_G) (cI cL cZ cR cG cH : ClassId) (Z : zT) (kd : Nat → Nat) (L : List Nat) (f : Nat → va_E) (hG : GI (okc cI cL cZ cR cG cH L kd) kd L f) (o0 : Nat) (mo0 : o0 ∈ L) (ko0 : kd o0 = 11) (p1 : Int32) (bp1 : (0 ≤ p1.toInt ∧ p1.toInt ≤ 1)) : mPI l D cI cL cZ cR cG cH Z yX11_example cX11_example 6 (some .int) 2 44 [.ref o0, .int p1] L f (fun (r : Int32) (f9 : Nat → va_E) => GI (okc cI cL cZ cR cG cH L kd) kd L f9 ∧ ((-2147483648) ≤ r.toInt ∧ r.toInt ≤ 2147483647) ∧ (∀ b, kd b ≠ 6 → kd b ≠ 9 → kd b ≠ 11 → kd b ≠ 504 → kd b ≠ 505 → f9 b = f b) ∧ (∀ b, kd b = 6 → fldI (f9 b) 0 = fldI (f b) 0) ∧ (∀ b, kd b = 11 → fldI (f9 b) 8 = fldI (f b) 8) ∧ (∀ b, kd b = 11 → fldR (f9 b) 2 = fldR (f b) 2) ∧ (∀ b, kd b = 11 → fldR (f9 b) 3 = fldR (f b) 3) ∧ (∀ b, kd b = 11 → fldR (f9 b) 5 = fldR (f b) 5) ∧ (∀ b, kd b = 11 → fldR (f9 b) 6 = fldR (f b) 6) ∧ (∀ b, kd b = 11 → fldR (f9 b) 7 = fldR (f b) 7) ∧ (∀ b, kd b = 11 → fldR (f9 b) 9 = fldR (f b) 9) ∧ (∀ b, kd b = 11 → fldR (f9 b) 10 = fldR (f b) 10) ∧ (∀ b, kd b = 11 → fldR (f9 b) 16 = fldR (f b) 16) ∧ (∀ (w1 z1 : Int32), fldI (f o0) 1 = some w1 → fldI (f9 o0) 1 = some z1 → z1.toInt = 0)) := by
  obtain ⟨dC, dI⟩ := D
  refine Met.ofW (cc := cX11_example) (maxL := 6) (ret := (some .int)) (by decide) rfl ?_
  intro p e s m args below meth c s₁ B hml hv
  obtain ⟨rfl, hP, hK, hD0, hN, hZ⟩ := hv
  have hx := B.exec
  have hb := B.bytes
  have hr := B.returns
  have hU : ∀ w ∈ wsU, w.before _ s = true := fun w h => atoms_spec (ws := wU yX11_example cX11_example 6 (some .int)) B.pre w (List.mem_cons_of_mem _ h)
  have hown : s.vm.findClass RX11 = some m.cls := findClass_of_methodNamed B.named
  have hlocks := B.notSynchronized
  have hD := pl_in hD0
  have hS : va_S (fun q => q ∈ L) s.heap s.heap [] := va_S.rf
  have hl := lv_entry ([.ref o0, .int p1]) (n := 6) (Nat.le_of_ble_eq_true rfl)
  rw [lg_entry_eq]
  generalize (lg_sl ([.ref o0, .int p1]) ++ List.replicate (6 - (lg_sl ([.ref o0, .int p1])).length) Slot.unset).toArray = ls at hl ⊢
  have hl : lv_has ls 6 [(0, .ref o0), (1, .int p1)] := hl
  have hfr0 : ∀ b, kd b ≠ 6 → kd b ≠ 9 → kd b ≠ 11 → kd b ≠ 504 → kd b ≠ 505 → f b = f b := fun _ _ _ _ _ _ => rfl
  have hfr6_0 : ∀ b, kd b = 6 → fldI (f b) 0 = fldI (f b) 0 := fun _ _ => rfl
  have hfr11_8 : ∀ b, kd b = 11 → fldI (f b) 8 = fldI (f b) 8 := fun _ _ => rfl
  have hrr11_2 : ∀ b, kd b = 11 → fldR (f b) 2 = fldR (f b) 2 := fun _ _ => rfl
  have hrr11_3 : ∀ b, kd b = 11 → fldR (f b) 3 = fldR (f b) 3 := fun _ _ => rfl
  have hrr11_5 : ∀ b, kd b = 11 → fldR (f b) 5 = fldR (f b) 5 := fun _ _ => rfl
  have hrr11_6 : ∀ b, kd b = 11 → fldR (f b) 6 = fldR (f b) 6 := fun _ _ => rfl
  have hrr11_7 : ∀ b, kd b = 11 → fldR (f b) 7 = fldR (f b) 7 := fun _ _ => rfl
  have hrr11_9 : ∀ b, kd b = 11 → fldR (f b) 9 = fldR (f b) 9 := fun _ _ => rfl
  have hrr11_10 : ∀ b, kd b = 11 → fldR (f b) 10 = fldR (f b) 10 := fun _ _ => rfl
  have hrr11_16 : ∀ b, kd b = 11 → fldR (f b) 16 = fldR (f b) 16 := fun _ _ => rfl
  obtain ⟨a_2, v_3, a_4, a_5, a_6, a_7, a_8, a_9, v_10, a_11, a_12, a_13, v_14, v_15, a_16, v_17, a_18, a_19, v_20, hfo_1, ⟨ma_2, ka_2⟩, bv_3, ⟨ma_4, ka_4⟩, ⟨ma_5, ka_5⟩, ⟨ma_6, ka_6⟩, ⟨ma_7, ka_7⟩, ⟨ma_8, ka_8⟩, ⟨ma_9, ka_9⟩, bv_10, ⟨ma_11, ka_11⟩, ⟨ma_12, ka_12⟩, ⟨ma_13, ka_13⟩, bv_14, ⟨ma_16, ka_16⟩, bv_17, ⟨ma_18, ka_18⟩, ⟨ma_19, ka_19⟩⟩ := un_11 (hG _ mo0) ko0
  have bv_15 : ((-2147483648) ≤ v_15.toInt ∧ v_15.toInt ≤ 2147483647) := ⟨i32_lo _, i32_hi _⟩
  have bv_20 : ((-2147483648) ≤ v_20.toInt ∧ v_20.toInt ≤ 2147483647) := ⟨i32_lo _, i32_hi _⟩
  refine lv_aload_n hx hb dX11_example_0 rfl (lv_at hl 0 rfl) ?_
  refine tk_ViP (As := []) (rest := []) (n := 0) hx hb hml hown hU hN hZ (s_X11_emptyTape_k11_e l (dC, dI) cI cL cZ cR cG cH Z kd L f hG o0 mo0 ko0) wd_239 wd_240 wd_241 wd_2 wd_242 (by decide +kernel) ⟨Nat.le_of_ble_eq_true rfl, Nat.le_of_ble_eq_true rfl⟩ hK hP hD hS mo0 hfo_1 11 rfl rfl rfl hl.1 rfl (Nat.le_of_ble_eq_true rfl) dX11_example_1 ⟨Nat.le_of_ble_eq_true rfl, Nat.le_of_ble_eq_true rfl⟩ (fun x_21 f_22 H locs hw hP hD hS => ?_)
  obtain ⟨hG, bx_21, hkc_23, hfc_24, hrc_25, hrc_26, hrc_27, hrc_28, hrc_29, hrc_30, hrc_31, hrc_32, hpost_33⟩ := hw
  have hfr0 : ∀ b, kd b ≠ 6 → kd b ≠ 9 → kd b ≠ 11 → kd b ≠ 504 → kd b ≠ 505 → f_22 b = f b := fun b q6 q9 q11 q504 q505 => (hkc_23 b q11).trans (hfr0 b q6 q9 q11 q504 q505)
  have hfr6_0 : ∀ b, kd b = 6 → fldI (f_22 b) 0 = fldI (f b) 0 := fun b kb => (congrArg (fun x => fldI x 0) (hkc_23 b (by rw [kb]; decide))).trans (hfr6_0 b kb)
  have hfr11_8 : ∀ b, kd b = 11 → fldI (f_22 b) 8 = fldI (f b) 8 := fun b kb => (hfc_24 b kb).trans (hfr11_8 b kb)
  have hrr11_2 : ∀ b, kd b = 11 → fldR (f_22 b) 2 = fldR (f b) 2 := fun b kb => (hrc_25 b kb).trans (hrr11_2 b kb)
  have hrr11_3 : ∀ b, kd b = 11 → fldR (f_22 b) 3 = fldR (f b) 3 := fun b kb => (hrc_26 b kb).trans (hrr11_3 b kb)
  have hrr11_5 : ∀ b, kd b = 11 → fldR (f_22 b) 5 = fldR (f b) 5 := fun b kb => (hrc_27 b kb).trans (hrr11_5 b kb)
  have hrr11_6 : ∀ b, kd b = 11 → fldR (f_22 b) 6 = fldR (f b) 6 := fun b kb => (hrc_28 b kb).trans (hrr11_6 b kb)
  have hrr11_7 : ∀ b, kd b = 11 → fldR (f_22 b) 7 = fldR (f b) 7 := fun b kb => (hrc_29 b kb).trans (hrr11_7 b kb)
  have hrr11_9 : ∀ b, kd b = 11 → fldR (f_22 b) 9 = fldR (f b) 9 := fun b kb => (hrc_30 b kb).trans (hrr11_9 b kb)
  have hrr11_10 : ∀ b, kd b = 11 → fldR (f_22 b) 10 = fldR (f b) 10 := fun b kb => (hrc_31 b kb).trans (hrr11_10 b kb)
  have hrr11_16 : ∀ b, kd b = 11 → fldR (f_22 b) 16 = fldR (f b) 16 := fun b kb => (hrc_32 b kb).trans (hrr11_16 b kb)
  obtain ⟨a_36, v_37, a_38, a_39, a_40, a_41, a_42, a_43, v_44, a_45, a_46, a_47, v_48, v_49, a_50, v_51, a_52, a_53, v_54, hfo_35, ⟨ma_36, ka_36⟩, bv_37, ⟨ma_38, ka_38⟩, ⟨ma_39, ka_39⟩, ⟨ma_40, ka_40⟩, ⟨ma_41, ka_41⟩, ⟨ma_42, ka_42⟩, ⟨ma_43, ka_43⟩, bv_44, ⟨ma_45, ka_45⟩, ⟨ma_46, ka_46⟩, ⟨ma_47, ka_47⟩, bv_48, ⟨ma_50, ka_50⟩, bv_51, ⟨ma_52, ka_52⟩, ⟨ma_53, ka_53⟩⟩ := un_11 (hG _ mo0) ko0
  have bv_49 : ((-2147483648) ≤ v_49.toInt ∧ v_49.toInt ≤ 2147483647) := ⟨i32_lo _, i32_hi _⟩
  have bv_54 : ((-2147483648) ≤ v_54.toInt ∧ v_54.toInt ≤ 2147483647) := ⟨i32_lo _, i32_hi _⟩
  obtain rfl : a_4 = a_38 := by have hk9 := hrr11_2 o0 ko0; rw [hfo_35, hfo_1] at hk9; exact (Option.some.inj hk9).symm
  obtain rfl : a_5 = a_39 := by have hk9 := hrr11_3 o0 ko0; rw [hfo_35, hfo_1] at hk9; exact (Option.some.inj hk9).symm
  obtain rfl : a_7 = a_41 := by have hk9 := hrr11_5 o0 ko0; rw [hfo_35, hfo_1] at hk9; exact (Option.some.inj hk9).symm
  obtain rfl : a_8 = a_42 := by have hk9 := hrr11_6 o0 ko0; rw [hfo_35, hfo_1] at hk9; exact (Option.some.inj hk9).symm
  obtain rfl : a_9 = a_43 := by have hk9 := hrr11_7 o0 ko0; rw [hfo_35, hfo_1] at hk9; exact (Option.some.inj hk9).symm
  obtain rfl : a_11 = a_45 := by have hk9 := hrr11_9 o0 ko0; rw [hfo_35, hfo_1] at hk9; exact (Option.some.inj hk9).symm
  obtain rfl : a_12 = a_46 := by have hk9 := hrr11_10 o0 ko0; rw [hfo_35, hfo_1] at hk9; exact (Option.some.inj hk9).symm
  obtain rfl : a_18 = a_52 := by have hk9 := hrr11_16 o0 ko0; rw [hfo_35, hfo_1] at hk9; exact (Option.some.inj hk9).symm
  obtain rfl : v_10 = v_44 := by have hk9 := hfc_24 o0 ko0; rw [hfo_35, hfo_1] at hk9; exact (Option.some.inj hk9).symm
  have hqhpost_33 := hpost_33 v_3 v_37 v_14 v_48 (by rw [hfo_1]; rfl) (by rw [hfo_1]; rfl) (by rw [hfo_35]; rfl) (by rw [hfo_35]; rfl)
  refine lv_istore_n (lv' := [(2, .int x_21), (0, .ref o0), (1, .int p1)]) hx hb dX11_example_4 rfl hl (by decide) rfl (fun ls hl => ?_)
  refine lv_aload_n hx hb dX11_example_5 rfl (lv_at hl 1 rfl) ?_
  refine tk_getP (D := (dC, dI)) (ci := 11) (v := .ref a_7) (C := RX11) (T := TX11) (N := 19) hx hb hU inlX11 hown hK hP mo0 hfo_35 rfl 5 (by decide) (hU _ wd_25) (fun _ h9 => h9) rfl dX11_example_6 ?_
  obtain ⟨v_56, v_57, a_58, a_59, a_60, v_61, a_62, a_63, a_64, hfo_55, bv_57, ⟨ma_58, ka_58⟩, ⟨ma_59, ka_59⟩, ⟨ma_60, ka_60⟩, ⟨ma_62, ka_62⟩, ⟨ma_63, ka_63⟩, ⟨ma_64, ka_64⟩⟩ := un_6 (hG _ ma_7) ka_7
  have bv_56 : ((-2147483648) ≤ v_56.toInt ∧ v_56.toInt ≤ 2147483647) := ⟨i32_lo _, i32_hi _⟩
  have bv_61 : ((-2147483648) ≤ v_61.toInt ∧ v_61.toInt ≤ 2147483647) := ⟨i32_lo _, i32_hi _⟩
  refine tk_getP (D := (dC, dI)) (ci := 6) (v := .ref a_59) (C := RX6) (T := TX6) (N := 9) hx hb hU inlX6 hown hK hP ma_7 hfo_55 rfl 3 (by decide) (hU _ wd_1387) (fun _ h9 => h9) rfl dX11_example_9 ?_
  obtain ⟨a_66, a_67, v_68, hfo_65, ⟨ma_66, ka_66⟩, ⟨ma_67, ka_67⟩, bv_68⟩ := un_9 (hG _ ma_59) ka_59
  refine tk_getP (D := (dC, dI)) (ci := 9) (v := .int v_68) (C := RX9) (T := TX9) (N := 3) hx hb hU inlX9 hown hK hP ma_59 hfo_65 rfl 2 (by decide) (hU _ wd_1000) (fun _ h9 => h9) rfl dX11_example_12 ?_
  refine lv_bipush (v := 12) hx hb dX11_example_15 (by decide) ?_
  refine lv_icmp_lt (tgt := 22) hx hb dX11_example_17 (by decide) (fun c_69 => ?_) (fun c_69 => ?_)
  · skip
    rw [Int32.lt_iff_toInt_lt, ti_12] at c_69
    refine lv_aload_n hx hb dX11_example_22 rfl (lv_at hl 1 rfl) ?_
    refine lv_iload_n hx hb dX11_example_23 rfl (lv_at hl 0 rfl) ?_
    refine tk_ViP (As := [.int x_21]) (rest := []) (n := 1) hx hb hml hown hU hN hZ (s_X11_placeOfColon_k11 l (dC, dI) cI cL cZ cR cG cH Z kd L f_22 hG o0 mo0 ko0 x_21 (by constructor <;> omega)) wd_1389 wd_1390 wd_1391 wd_2 wd_1392 (by decide +kernel) ⟨Nat.le_of_ble_eq_true rfl, Nat.le_of_ble_eq_true rfl⟩ hK hP hD hS mo0 hfo_35 11 rfl rfl rfl hl.1 rfl (Nat.le_of_ble_eq_true rfl) dX11_example_24 ⟨Nat.le_of_ble_eq_true rfl, Nat.le_of_ble_eq_true rfl⟩ (fun x_70 f_71 H locs hw hP hD hS => ?_)
    obtain ⟨rfl, bx_70⟩ := hw
    refine lv_istore_n (lv' := [(3, .int x_70), (2, .int x_21), (0, .ref o0), (1, .int p1)]) hx hb dX11_example_27 rfl hl (by decide) rfl (fun ls hl => ?_)
    refine lv_iload_n hx hb dX11_example_28 rfl (lv_at hl 1 rfl) ?_
    refine lv_iload_n hx hb dX11_example_29 rfl (lv_at hl 0 rfl) ?_
    refine lv_isub hx hb dX11_example_30 ?_
    refine lv_topi (fun x_73 ex_73 => ?_)
    have hx_73 : x_73.toInt = x_21.toInt - x_70.toInt := by rw [ex_73, sb_I (by omega) (by omega)]
    have bx_73 : ((-599) ≤ x_73.toInt ∧ x_73.toInt ≤ 601) := by constructor <;> omega
    refine lv_iconst (v := 1) hx hb dX11_example_31 (by decide) ?_
    refine lv_isub hx hb dX11_example_32 ?_
    refine lv_topi (fun x_74 ex_74 => ?_)
    have hx_74 : x_74.toInt = x_73.toInt - 1 := by rw [ex_74, sb_I (by rw [ti_1]; omega) (by rw [ti_1]; omega), ti_1]
    have bx_74 : ((-600) ≤ x_74.toInt ∧ x_74.toInt ≤ 600) := by constructor <;> omega
    refine lv_istore (lv' := [(4, .int x_74), (3, .int x_70), (2, .int x_21), (0, .ref o0), (1, .int p1)]) hx hb dX11_example_33 hl (by decide) rfl (fun ls hl => ?_)
    refine lv_iload_n hx hb dX11_example_35 rfl (lv_at hl 1 rfl) ?_
    refine lv_iconst (v := (-1)) hx hb dX11_example_36 (by decide) ?_
    refine lv_icmp_eq (tgt := 58) hx hb dX11_example_37 (by decide) (fun c_75 => ?_) (fun c_75 => ?_)
    · skip
      rw [← Int32.toInt_inj, ti_m1] at c_75
      refine lv_iconst (v := (-1)) hx hb dX11_example_58 (by decide) ?_
      exact W.iret (v := (-1)) hx hb hr (fun t ht hW => ⟨⟨(-1), f_22, rfl, ⟨hG, (by decide), hfr0, hfr6_0, hfr11_8, hrr11_2, hrr11_3, hrr11_5, hrr11_6, hrr11_7, hrr11_9, hrr11_10, hrr11_16, (by intro w1 z1 e1 d1; rw [hfo_1] at e1; rw [hfo_35] at d1; obtain rfl := Option.some.inj e1; obtain rfl := Option.some.inj d1; (try rw [ti_m1]) <;> omega)⟩, by rw [ht]; exact hP, va_K.moved hW.alike hK, pl_in hD⟩, hS.F ht⟩) hS.2.2 dX11_example_59
    · skip
      rw [← Int32.toInt_inj, ti_m1] at c_75
      refine lv_iload_n hx hb dX11_example_40 rfl (lv_at hl 1 rfl) ?_
      refine lv_bipush (v := 8) hx hb dX11_example_41 (by decide) ?_
      refine lv_icmp_gt (tgt := 58) hx hb dX11_example_43 (by decide) (fun c_76 => ?_) (fun c_76 => ?_)
      · skip
        rw [Int32.lt_iff_toInt_lt, ti_8] at c_76
        refine lv_iconst (v := (-1)) hx hb dX11_example_58 (by decide) ?_
        exact W.iret (v := (-1)) hx hb hr (fun t ht hW => ⟨⟨(-1), f_22, rfl, ⟨hG, (by decide), hfr0, hfr6_0, hfr11_8, hrr11_2, hrr11_3, hrr11_5, hrr11_6, hrr11_7, hrr11_9, hrr11_10, hrr11_16, (by intro w1 z1 e1 d1; rw [hfo_1] at e1; rw [hfo_35] at d1; obtain rfl := Option.some.inj e1; obtain rfl := Option.some.inj d1; (try rw [ti_m1]) <;> omega)⟩, by rw [ht]; exact hP, va_K.moved hW.alike hK, pl_in hD⟩, hS.F ht⟩) hS.2.2 dX11_example_59
      · skip
        rw [Int32.lt_iff_toInt_lt, ti_8] at c_76
        refine lv_iload hx hb dX11_example_46 (lv_at hl 0 rfl) ?_
        refine lv_bipush (v := 8) hx hb dX11_example_48 (by decide) ?_
        refine lv_icmp_gt (tgt := 58) hx hb dX11_example_50 (by decide) (fun c_77 => ?_) (fun c_77 => ?_)
        · skip
          rw [Int32.lt_iff_toInt_lt, ti_8] at c_77
          refine lv_iconst (v := (-1)) hx hb dX11_example_58 (by decide) ?_
          exact W.iret (v := (-1)) hx hb hr (fun t ht hW => ⟨⟨(-1), f_22, rfl, ⟨hG, (by decide), hfr0, hfr6_0, hfr11_8, hrr11_2, hrr11_3, hrr11_5, hrr11_6, hrr11_7, hrr11_9, hrr11_10, hrr11_16, (by intro w1 z1 e1 d1; rw [hfo_1] at e1; rw [hfo_35] at d1; obtain rfl := Option.some.inj e1; obtain rfl := Option.some.inj d1; (try rw [ti_m1]) <;> omega)⟩, by rw [ht]; exact hP, va_K.moved hW.alike hK, pl_in hD⟩, hS.F ht⟩) hS.2.2 dX11_example_59
        · skip
          rw [Int32.lt_iff_toInt_lt, ti_8] at c_77
          refine lv_iload_n hx hb dX11_example_53 rfl (lv_at hl 2 rfl) ?_
          refine lv_iconst (v := 2) hx hb dX11_example_54 (by decide) ?_
          refine lv_icmp_ge (tgt := 60) hx hb dX11_example_55 (by decide) (fun c_78 => ?_) (fun c_78 => ?_)
          · skip
            rw [Int32.le_iff_toInt_le, ti_2] at c_78
            refine lv_aload_n hx hb dX11_example_60 rfl (lv_at hl 3 rfl) ?_
            refine lv_iconst (v := 0) hx hb dX11_example_61 (by decide) ?_
            refine lv_iload_n hx hb dX11_example_62 rfl (lv_at hl 1 rfl) ?_
            refine tk_ViP (As := [.int 0, .int x_70]) (rest := []) (n := 2) hx hb hml hown hU hN hZ (s_X11_areLetters_k11 l (dC, dI) cI cL cZ cR cG cH Z kd L f_22 hG o0 mo0 ko0 0 (by decide) x_70 (by constructor <;> omega)) wd_713 wd_714 wd_715 wd_2 wd_716 (by decide +kernel) ⟨Nat.le_of_ble_eq_true rfl, Nat.le_of_ble_eq_true rfl⟩ hK hP hD hS mo0 hfo_35 11 rfl rfl rfl hl.1 rfl (Nat.le_of_ble_eq_true rfl) dX11_example_63 ⟨Nat.le_of_ble_eq_true rfl, Nat.le_of_ble_eq_true rfl⟩ (fun x_79 f_80 H locs hw hP hD hS => ?_)
            obtain ⟨rfl, bx_79⟩ := hw
            refine lv_if_eq (tgt := 80) hx hb dX11_example_66 (by decide) (fun c_82 => ?_) (fun c_82 => ?_)
            · skip
              rw [← Int32.toInt_inj, ti_0] at c_82
              refine lv_iconst (v := (-1)) hx hb dX11_example_80 (by decide) ?_
              exact W.iret (v := (-1)) hx hb hr (fun t ht hW => ⟨⟨(-1), f_22, rfl, ⟨hG, (by decide), hfr0, hfr6_0, hfr11_8, hrr11_2, hrr11_3, hrr11_5, hrr11_6, hrr11_7, hrr11_9, hrr11_10, hrr11_16, (by intro w1 z1 e1 d1; rw [hfo_1] at e1; rw [hfo_35] at d1; obtain rfl := Option.some.inj e1; obtain rfl := Option.some.inj d1; (try rw [ti_m1]) <;> omega)⟩, by rw [ht]; exact hP, va_K.moved hW.alike hK, pl_in hD⟩, hS.F ht⟩) hS.2.2 dX11_example_81
            · skip
              rw [← Int32.toInt_inj, ti_0] at c_82
              refine lv_aload_n hx hb dX11_example_69 rfl (lv_at hl 3 rfl) ?_
              refine lv_iload_n hx hb dX11_example_70 rfl (lv_at hl 1 rfl) ?_
              refine lv_iconst (v := 1) hx hb dX11_example_71 (by decide) ?_
              refine lv_iadd hx hb dX11_example_72 ?_
              refine lv_topi (fun x_83 ex_83 => ?_)
              have hx_83 : x_83.toInt = x_70.toInt + 1 := by rw [ex_83, ad_I (by rw [ti_1]; omega) (by rw [ti_1]; omega), ti_1]
              have bx_83 : (1 ≤ x_83.toInt ∧ x_83.toInt ≤ 9) := by constructor <;> omega
              refine lv_iload_n hx hb dX11_example_73 rfl (lv_at hl 2 rfl) ?_
              refine tk_ViP (As := [.int x_83, .int x_21]) (rest := []) (n := 2) hx hb hml hown hU hN hZ (s_X11_areLetters_k11 l (dC, dI) cI cL cZ cR cG cH Z kd L f_22 hG o0 mo0 ko0 x_83 (by constructor <;> omega) x_21 (by constructor <;> omega)) wd_713 wd_714 wd_715 wd_2 wd_716 (by decide +kernel) ⟨Nat.le_of_ble_eq_true rfl, Nat.le_of_ble_eq_true rfl⟩ hK hP hD hS mo0 hfo_35 11 rfl rfl rfl hl.1 rfl (Nat.le_of_ble_eq_true rfl) dX11_example_74 ⟨Nat.le_of_ble_eq_true rfl, Nat.le_of_ble_eq_true rfl⟩ (fun x_84 f_85 H locs hw hP hD hS => ?_)
              obtain ⟨rfl, bx_84⟩ := hw
              refine lv_if_ne (tgt := 82) hx hb dX11_example_77 (by decide) (fun c_87 => ?_) (fun c_87 => ?_)
              · skip
                rw [← Int32.toInt_inj, ti_0] at c_87
                refine lv_aload_n hx hb dX11_example_82 rfl (lv_at hl 3 rfl) ?_
                refine tk_getP (D := (dC, dI)) (ci := 11) (v := .ref a_7) (C := RX11) (T := TX11) (N := 19) hx hb hU inlX11 hown hK hP mo0 hfo_35 rfl 5 (by decide) (hU _ wd_25) (fun _ h9 => h9) rfl dX11_example_83 ?_
                refine lv_iload_n hx hb dX11_example_86 rfl (lv_at hl 4 rfl) ?_
                refine tk_VvP (As := [.int p1]) (rest := []) (n := 1) hx hb hml hown hU hN hZ (s_X6_openExample_k6 l (dC, dI) cI cL cZ cR cG cH Z kd L f_22 hG a_7 ma_7 ka_7 p1 (by constructor <;> omega)) wd_1393 wd_1394 wd_1395 wd_24 wd_1396 (by decide +kernel) ⟨Nat.le_of_ble_eq_true rfl, Nat.le_of_ble_eq_true rfl⟩ hK hP hD hS ma_7 hfo_55 6 rfl rfl rfl hl.1 rfl (Nat.le_of_ble_eq_true rfl) dX11_example_87 ⟨Nat.le_of_ble_eq_true rfl, Nat.le_of_ble_eq_true rfl⟩ (fun f_89 H locs hw hP hD hS => ?_)
                obtain ⟨hG, hkc_90, hfc_91⟩ := hw
                have hfo_93 : f_89 o0 = .inr (11, [.ref a_36, .int v_37, .ref a_4, .ref a_5, .ref a_40, .ref a_7, .ref a_8, .ref a_9, .int v_10, .ref a_11, .ref a_12, .ref a_47, .int v_48, .int v_49, .ref a_50, .int v_51, .ref a_18, .ref a_53, .int v_54]) := by rw [hkc_90 o0 (by rw [ko0]; decide) (by rw [ko0]; decide) (by rw [ko0]; decide)]; exact hfo_35
                have hfr0 : ∀ b, kd b ≠ 6 → kd b ≠ 9 → kd b ≠ 11 → kd b ≠ 504 → kd b ≠ 505 → f_89 b = f b := fun b q6 q9 q11 q504 q505 => (hkc_90 b q6 q9 q505).trans (hfr0 b q6 q9 q11 q504 q505)
                have hfr6_0 : ∀ b, kd b = 6 → fldI (f_89 b) 0 = fldI (f b) 0 := fun b kb => (hfc_91 b kb).trans (hfr6_0 b kb)
                have hfr11_8 : ∀ b, kd b = 11 → fldI (f_89 b) 8 = fldI (f b) 8 := fun b kb => (congrArg (fun x => fldI x 8) (hkc_90 b (by rw [kb]; decide) (by rw [kb]; decide) (by rw [kb]; decide))).trans (hfr11_8 b kb)
                have hrr11_2 : ∀ b, kd b = 11 → fldR (f_89 b) 2 = fldR (f b) 2 := fun b kb => (congrArg (fun x => fldR x 2) (hkc_90 b (by rw [kb]; decide) (by rw [kb]; decide) (by rw [kb]; decide))).trans (hrr11_2 b kb)
                have hrr11_3 : ∀ b, kd b = 11 → fldR (f_89 b) 3 = fldR (f b) 3 := fun b kb => (congrArg (fun x => fldR x 3) (hkc_90 b (by rw [kb]; decide) (by rw [kb]; decide) (by rw [kb]; decide))).trans (hrr11_3 b kb)
                have hrr11_5 : ∀ b, kd b = 11 → fldR (f_89 b) 5 = fldR (f b) 5 := fun b kb => (congrArg (fun x => fldR x 5) (hkc_90 b (by rw [kb]; decide) (by rw [kb]; decide) (by rw [kb]; decide))).trans (hrr11_5 b kb)
                have hrr11_6 : ∀ b, kd b = 11 → fldR (f_89 b) 6 = fldR (f b) 6 := fun b kb => (congrArg (fun x => fldR x 6) (hkc_90 b (by rw [kb]; decide) (by rw [kb]; decide) (by rw [kb]; decide))).trans (hrr11_6 b kb)
                have hrr11_7 : ∀ b, kd b = 11 → fldR (f_89 b) 7 = fldR (f b) 7 := fun b kb => (congrArg (fun x => fldR x 7) (hkc_90 b (by rw [kb]; decide) (by rw [kb]; decide) (by rw [kb]; decide))).trans (hrr11_7 b kb)
                have hrr11_9 : ∀ b, kd b = 11 → fldR (f_89 b) 9 = fldR (f b) 9 := fun b kb => (congrArg (fun x => fldR x 9) (hkc_90 b (by rw [kb]; decide) (by rw [kb]; decide) (by rw [kb]; decide))).trans (hrr11_9 b kb)
                have hrr11_10 : ∀ b, kd b = 11 → fldR (f_89 b) 10 = fldR (f b) 10 := fun b kb => (congrArg (fun x => fldR x 10) (hkc_90 b (by rw [kb]; decide) (by rw [kb]; decide) (by rw [kb]; decide))).trans (hrr11_10 b kb)
                have hrr11_16 : ∀ b, kd b = 11 → fldR (f_89 b) 16 = fldR (f b) 16 := fun b kb => (congrArg (fun x => fldR x 16) (hkc_90 b (by rw [kb]; decide) (by rw [kb]; decide) (by rw [kb]; decide))).trans (hrr11_16 b kb)
                obtain ⟨v_95, v_96, a_97, a_98, a_99, v_100, a_101, a_102, a_103, hfo_94, bv_96, ⟨ma_97, ka_97⟩, ⟨ma_98, ka_98⟩, ⟨ma_99, ka_99⟩, ⟨ma_101, ka_101⟩, ⟨ma_102, ka_102⟩, ⟨ma_103, ka_103⟩⟩ := un_6 (hG _ ma_7) ka_7
                have bv_95 : ((-2147483648) ≤ v_95.toInt ∧ v_95.toInt ≤ 2147483647) := ⟨i32_lo _, i32_hi _⟩
                have bv_100 : ((-2147483648) ≤ v_100.toInt ∧ v_100.toInt ≤ 2147483647) := ⟨i32_lo _, i32_hi _⟩
                obtain rfl : v_56 = v_95 := by have hk9 := hfc_91 a_7 ka_7; rw [hfo_94, hfo_55] at hk9; exact (Option.some.inj hk9).symm
                refine lv_iconst (v := 0) hx hb dX11_example_90 (by decide) ?_
                refine lv_istore (lv' := [(5, .int 0), (4, .int x_74), (3, .int x_70), (2, .int x_21), (0, .ref o0), (1, .int p1)]) hx hb dX11_example_91 hl (by decide) rfl (fun ls hl => ?_)
                have hloop_122 : ∀ (n : Nat), ∀ (y_123 : Int32), (0 ≤ y_123.toInt ∧ y_123.toInt ≤ 8) → ∀ (f_125 : Nat → va_E), GI (okc cI cL cZ cR cG cH L kd) kd L f_125 → ∀ (H : Heap) (locs : List Loc), va_P (dC, dI) vwCl (va_pl L f_125) H → va_S (fun q => q ∈ L) s.heap H locs → va_D (fun q => q ∈ L) (va_pl L f_125) → (∀ b, kd b ≠ 6 → kd b ≠ 9 → kd b ≠ 11 → kd b ≠ 504 → kd b ≠ 505 → f_125 b = f b) → (∀ b, kd b = 6 → fldI (f_125 b) 0 = fldI (f b) 0) → (∀ b, kd b = 11 → fldI (f_125 b) 8 = fldI (f b) 8) → (∀ b, kd b = 11 → fldR (f_125 b) 2 = fldR (f b) 2) → (∀ b, kd b = 11 → fldR (f_125 b) 3 = fldR (f b) 3) → (∀ b, kd b = 11 → fldR (f_125 b) 5 = fldR (f b) 5) → (∀ b, kd b = 11 → fldR (f_125 b) 6 = fldR (f b) 6) → (∀ b, kd b = 11 → fldR (f_125 b) 7 = fldR (f b) 7) → (∀ b, kd b = 11 → fldR (f_125 b) 9 = fldR (f b) 9) → (∀ b, kd b = 11 → fldR (f_125 b) 10 = fldR (f b) 10) → (∀ b, kd b = 11 → fldR (f_125 b) 16 = fldR (f b) 16) → (f_125 o0 = .inr (11, [.ref a_36, .int v_37, .ref a_4, .ref a_5, .ref a_40, .ref a_7, .ref a_8, .ref a_9, .int v_10, .ref a_11, .ref a_12, .ref a_47, .int v_48, .int v_49, .ref a_50, .int v_51, .ref a_18, .ref a_53, .int v_54])) → (f_125 a_7 = .inr (6, [.int v_56, .int v_96, .ref a_97, .ref a_98, .ref a_99, .int v_100, .ref a_101, .ref a_102, .ref a_103])) → 8 - y_123.toInt < (n : Int) → ∀ (ls : Array Slot), lv_has ls 6 [(5, .int y_123), (4, .int x_74), (3, .int x_70), (2, .int x_21), (0, .ref o0), (1, .int p1)] → W p l e (headSpec (wU yX11_example cX11_example 6 (some .int)) { frames := 2, cells := 0, slots := 0, locals := 44 }).room s m [.ref o0, .int p1].toArray below meth c H locs 0 0 (MQ below (va_Qi (fun (r : Int32) (f9 : Nat → va_E) => GI (okc cI cL cZ cR cG cH L kd) kd L f9 ∧ ((-2147483648) ≤ r.toInt ∧ r.toInt ≤ 2147483647) ∧ (∀ b, kd b ≠ 6 → kd b ≠ 9 → kd b ≠ 11 → kd b ≠ 504 → kd b ≠ 505 → f9 b = f b) ∧ (∀ b, kd b = 6 → fldI (f9 b) 0 = fldI (f b) 0) ∧ (∀ b, kd b = 11 → fldI (f9 b) 8 = fldI (f b) 8) ∧ (∀ b, kd b = 11 → fldR (f9 b) 2 = fldR (f b) 2) ∧ (∀ b, kd b = 11 → fldR (f9 b) 3 = fldR (f b) 3) ∧ (∀ b, kd b = 11 → fldR (f9 b) 5 = fldR (f b) 5) ∧ (∀ b, kd b = 11 → fldR (f9 b) 6 = fldR (f b) 6) ∧ (∀ b, kd b = 11 → fldR (f9 b) 7 = fldR (f b) 7) ∧ (∀ b, kd b = 11 → fldR (f9 b) 9 = fldR (f b) 9) ∧ (∀ b, kd b = 11 → fldR (f9 b) 10 = fldR (f b) 10) ∧ (∀ b, kd b = 11 → fldR (f9 b) 16 = fldR (f b) 16) ∧ (∀ (w1 z1 : Int32), fldI (f o0) 1 = some w1 → fldI (f9 o0) 1 = some z1 → z1.toInt = 0)) (qP (dC, dI) cI cL cZ cR cG cH L) (fun q => q ∈ L)) [.ref o0, .int p1].toArray s 0 0 (fun q => q ∈ L)) (F0 m 93 ls []) := by
                  intro n
                  induction n with
                  | zero => intro y_123 by_123 f_125 hG H locs hP hS hD hfr0 hfr6_0 hfr11_8 hrr11_2 hrr11_3 hrr11_5 hrr11_6 hrr11_7 hrr11_9 hrr11_10 hrr11_16 hfo_126 hfo_127 hmuhloop_122 ls hl; exfalso; omega
                  | succ n ih_hloop_122 =>
                    intro y_123 by_123 f_125 hG H locs hP hS hD hfr0 hfr6_0 hfr11_8 hrr11_2 hrr11_3 hrr11_5 hrr11_6 hrr11_7 hrr11_9 hrr11_10 hrr11_16 hfo_126 hfo_127 hmuhloop_122 ls hl
                    refine lv_iload hx hb dX11_example_93 (lv_at hl 0 rfl) ?_
                    refine lv_iload_n hx hb dX11_example_95 rfl (lv_at hl 2 rfl) ?_
                    refine lv_icmp_ge (tgt := 129) hx hb dX11_example_96 (by decide) (fun c_128 => ?_) (fun c_128 => ?_)
                    · skip
                      rw [Int32.le_iff_toInt_le] at c_128
                      refine lv_iload_n hx hb dX11_example_129 rfl (lv_at hl 2 rfl) ?_
                      refine lv_iconst (v := 1) hx hb dX11_example_130 (by decide) ?_
                      refine lv_iadd hx hb dX11_example_131 ?_
                      refine lv_topi (fun x_129 ex_129 => ?_)
                      have hx_129 : x_129.toInt = x_70.toInt + 1 := by rw [ex_129, ad_I (by rw [ti_1]; omega) (by rw [ti_1]; omega), ti_1]
                      have bx_129 : (1 ≤ x_129.toInt ∧ x_129.toInt ≤ 9) := by constructor <;> omega
                      refine lv_istore (lv' := [(5, .int x_129), (4, .int x_74), (3, .int x_70), (2, .int x_21), (0, .ref o0), (1, .int p1)]) hx hb dX11_example_132 hl (by decide) rfl (fun ls hl => ?_)
                      have hloop_148 : ∀ (n : Nat), ∀ (y_149 : Int32), (1 ≤ y_149.toInt ∧ y_149.toInt ≤ 600) → ∀ (f_151 : Nat → va_E), GI (okc cI cL cZ cR cG cH L kd) kd L f_151 → ∀ (H : Heap) (locs : List Loc), va_P (dC, dI) vwCl (va_pl L f_151) H → va_S (fun q => q ∈ L) s.heap H locs → va_D (fun q => q ∈ L) (va_pl L f_151) → (∀ b, kd b ≠ 6 → kd b ≠ 9 → kd b ≠ 11 → kd b ≠ 504 → kd b ≠ 505 → f_151 b = f b) → (∀ b, kd b = 6 → fldI (f_151 b) 0 = fldI (f b) 0) → (∀ b, kd b = 11 → fldI (f_151 b) 8 = fldI (f b) 8) → (∀ b, kd b = 11 → fldR (f_151 b) 2 = fldR (f b) 2) → (∀ b, kd b = 11 → fldR (f_151 b) 3 = fldR (f b) 3) → (∀ b, kd b = 11 → fldR (f_151 b) 5 = fldR (f b) 5) → (∀ b, kd b = 11 → fldR (f_151 b) 6 = fldR (f b) 6) → (∀ b, kd b = 11 → fldR (f_151 b) 7 = fldR (f b) 7) → (∀ b, kd b = 11 → fldR (f_151 b) 9 = fldR (f b) 9) → (∀ b, kd b = 11 → fldR (f_151 b) 10 = fldR (f b) 10) → (∀ b, kd b = 11 → fldR (f_151 b) 16 = fldR (f b) 16) → (f_151 o0 = .inr (11, [.ref a_36, .int v_37, .ref a_4, .ref a_5, .ref a_40, .ref a_7, .ref a_8, .ref a_9, .int v_10, .ref a_11, .ref a_12, .ref a_47, .int v_48, .int v_49, .ref a_50, .int v_51, .ref a_18, .ref a_53, .int v_54])) → (f_151 a_7 = .inr (6, [.int v_56, .int v_96, .ref a_97, .ref a_98, .ref a_99, .int v_100, .ref a_101, .ref a_102, .ref a_103])) → 600 - y_149.toInt < (n : Int) → ∀ (ls : Array Slot), lv_has ls 6 [(5, .int y_149), (4, .int x_74), (3, .int x_70), (2, .int x_21), (0, .ref o0), (1, .int p1)] → W p l e (headSpec (wU yX11_example cX11_example 6 (some .int)) { frames := 2, cells := 0, slots := 0, locals := 44 }).room s m [.ref o0, .int p1].toArray below meth c H locs 0 0 (MQ below (va_Qi (fun (r : Int32) (f9 : Nat → va_E) => GI (okc cI cL cZ cR cG cH L kd) kd L f9 ∧ ((-2147483648) ≤ r.toInt ∧ r.toInt ≤ 2147483647) ∧ (∀ b, kd b ≠ 6 → kd b ≠ 9 → kd b ≠ 11 → kd b ≠ 504 → kd b ≠ 505 → f9 b = f b) ∧ (∀ b, kd b = 6 → fldI (f9 b) 0 = fldI (f b) 0) ∧ (∀ b, kd b = 11 → fldI (f9 b) 8 = fldI (f b) 8) ∧ (∀ b, kd b = 11 → fldR (f9 b) 2 = fldR (f b) 2) ∧ (∀ b, kd b = 11 → fldR (f9 b) 3 = fldR (f b) 3) ∧ (∀ b, kd b = 11 → fldR (f9 b) 5 = fldR (f b) 5) ∧ (∀ b, kd b = 11 → fldR (f9 b) 6 = fldR (f b) 6) ∧ (∀ b, kd b = 11 → fldR (f9 b) 7 = fldR (f b) 7) ∧ (∀ b, kd b = 11 → fldR (f9 b) 9 = fldR (f b) 9) ∧ (∀ b, kd b = 11 → fldR (f9 b) 10 = fldR (f b) 10) ∧ (∀ b, kd b = 11 → fldR (f9 b) 16 = fldR (f b) 16) ∧ (∀ (w1 z1 : Int32), fldI (f o0) 1 = some w1 → fldI (f9 o0) 1 = some z1 → z1.toInt = 0)) (qP (dC, dI) cI cL cZ cR cG cH L) (fun q => q ∈ L)) [.ref o0, .int p1].toArray s 0 0 (fun q => q ∈ L)) (F0 m 134 ls []) := by
                        intro n
                        induction n with
                        | zero => intro y_149 by_149 f_151 hG H locs hP hS hD hfr0 hfr6_0 hfr11_8 hrr11_2 hrr11_3 hrr11_5 hrr11_6 hrr11_7 hrr11_9 hrr11_10 hrr11_16 hfo_152 hfo_153 hmuhloop_148 ls hl; exfalso; omega
                        | succ n ih_hloop_148 =>
                          intro y_149 by_149 f_151 hG H locs hP hS hD hfr0 hfr6_0 hfr11_8 hrr11_2 hrr11_3 hrr11_5 hrr11_6 hrr11_7 hrr11_9 hrr11_10 hrr11_16 hfo_152 hfo_153 hmuhloop_148 ls hl
                          refine lv_iload hx hb dX11_example_134 (lv_at hl 0 rfl) ?_
                          refine lv_iload_n hx hb dX11_example_136 rfl (lv_at hl 3 rfl) ?_
                          refine lv_icmp_ge (tgt := 170) hx hb dX11_example_137 (by decide) (fun c_154 => ?_) (fun c_154 => ?_)
                          · skip
                            rw [Int32.le_iff_toInt_le] at c_154
                            refine lv_aload_n hx hb dX11_example_170 rfl (lv_at hl 4 rfl) ?_
                            refine tk_getP (D := (dC, dI)) (ci := 11) (v := .ref a_7) (C := RX11) (T := TX11) (N := 19) hx hb hU inlX11 hown hK hP mo0 hfo_152 rfl 5 (by decide) (hU _ wd_25) (fun _ h9 => h9) rfl dX11_example_171 ?_
                            refine tk_getP (D := (dC, dI)) (ci := 6) (v := .ref a_98) (C := RX6) (T := TX6) (N := 9) hx hb hU inlX6 hown hK hP ma_7 hfo_153 rfl 3 (by decide) (hU _ wd_1387) (fun _ h9 => h9) rfl dX11_example_174 ?_
                            obtain ⟨a_156, a_157, v_158, hfo_155, ⟨ma_156, ka_156⟩, ⟨ma_157, ka_157⟩, bv_158⟩ := un_9 (hG _ ma_98) ka_98
                            refine tk_getP (D := (dC, dI)) (ci := 9) (v := .int v_158) (C := RX9) (T := TX9) (N := 3) hx hb hU inlX9 hown hK hP ma_98 hfo_155 rfl 2 (by decide) (hU _ wd_1000) (fun _ h9 => h9) rfl dX11_example_177 ?_
                            refine lv_iconst (v := 1) hx hb dX11_example_180 (by decide) ?_
                            refine lv_isub hx hb dX11_example_181 ?_
                            refine lv_topi (fun x_159 ex_159 => ?_)
                            have hx_159 : x_159.toInt = v_158.toInt - 1 := by rw [ex_159, sb_I (by rw [ti_1]; omega) (by rw [ti_1]; omega), ti_1]
                            have bx_159 : ((-1) ≤ x_159.toInt ∧ x_159.toInt ≤ 11) := by constructor <;> omega
                            exact W.iret (v := x_159) hx hb hr (fun t ht hW => ⟨⟨x_159, f_151, rfl, ⟨hG, (by constructor <;> omega), hfr0, hfr6_0, hfr11_8, hrr11_2, hrr11_3, hrr11_5, hrr11_6, hrr11_7, hrr11_9, hrr11_10, hrr11_16, (by intro w1 z1 e1 d1; rw [hfo_1] at e1; rw [hfo_152] at d1; obtain rfl := Option.some.inj e1; obtain rfl := Option.some.inj d1; omega)⟩, by rw [ht]; exact hP, va_K.moved hW.alike hK, pl_in hD⟩, hS.F ht⟩) hS.2.2 dX11_example_182
                          · skip
                            rw [Int32.le_iff_toInt_le] at c_154
                            refine lv_aload_n hx hb dX11_example_140 rfl (lv_at hl 4 rfl) ?_
                            refine tk_getP (D := (dC, dI)) (ci := 11) (v := .ref a_7) (C := RX11) (T := TX11) (N := 19) hx hb hU inlX11 hown hK hP mo0 hfo_152 rfl 5 (by decide) (hU _ wd_25) (fun _ h9 => h9) rfl dX11_example_141 ?_
                            refine tk_getP (D := (dC, dI)) (ci := 6) (v := .ref a_99) (C := RX6) (T := TX6) (N := 9) hx hb hU inlX6 hown hK hP ma_7 hfo_153 rfl 4 (by decide) (hU _ wd_1388) (fun _ h9 => h9) rfl dX11_example_144 ?_
                            refine lv_aload_n hx hb dX11_example_147 rfl (lv_at hl 4 rfl) ?_
                            refine tk_getP (D := (dC, dI)) (ci := 11) (v := .ref a_5) (C := RX11) (T := TX11) (N := 19) hx hb hU inlX11 hown hK hP mo0 hfo_152 rfl 3 (by decide) (hU _ wd_19) (fun _ h9 => h9) rfl dX11_example_148 ?_
                            refine lv_aload_n hx hb dX11_example_151 rfl (lv_at hl 4 rfl) ?_
                            refine tk_getP (D := (dC, dI)) (ci := 11) (v := .ref a_36) (C := RX11) (T := TX11) (N := 19) hx hb hU inlX11 hown hK hP mo0 hfo_152 rfl 0 (by decide) (hU _ wd_13) (fun _ h9 => h9) rfl dX11_example_152 ?_
                            refine lv_iload hx hb dX11_example_155 (lv_at hl 0 rfl) ?_
                            obtain ⟨g_161, hfo_160, hbg_161⟩ := un_533 (hG _ ma_36) ka_36
                            refine tk_ildP hx hb hK hP 0 ma_36 hfo_160 rfl (vp_in_iff.mpr (by constructor <;> omega)) dX11_example_157 ?_
                            refine lv_topi (fun x_162 ex_162 => ?_)
                            have bx_162 : ((-2147483648) ≤ x_162.toInt ∧ x_162.toInt ≤ 2147483647) := ⟨i32_lo _, i32_hi _⟩
                            obtain ⟨a_164, v_165, a_166, a_167, a_168, a_169, v_170, a_171, a_172, a_173, a_174, a_175, v_176, a_177, a_178, a_179, hfo_163, ⟨ma_164, ka_164⟩, bv_165, ⟨ma_166, ka_166⟩, ⟨ma_167, ka_167⟩, ⟨ma_168, ka_168⟩, ⟨ma_169, ka_169⟩, bv_170, ⟨ma_171, ka_171⟩, ⟨ma_172, ka_172⟩, ⟨ma_173, ka_173⟩, ⟨ma_174, ka_174⟩, ⟨ma_175, ka_175⟩, bv_176, ⟨ma_177, ka_177⟩, ⟨ma_178, ka_178⟩, ⟨ma_179, ka_179⟩⟩ := un_7 (hG _ ma_5) ka_5
                            refine tk_ViP (As := [.int x_162]) (rest := [.ref a_99]) (n := 1) hx hb hml hown hU hN hZ (s_X7_signOf_k7 l (dC, dI) cI cL cZ cR cG cH Z kd L f_151 hG a_5 ma_5 ka_5 x_162) wd_717 wd_346 wd_347 wd_28 wd_348 (by decide +kernel) ⟨Nat.le_of_ble_eq_true rfl, Nat.le_of_ble_eq_true rfl⟩ hK hP hD hS ma_5 hfo_163 7 rfl rfl rfl hl.1 rfl (Nat.le_of_ble_eq_true rfl) dX11_example_158 ⟨Nat.le_of_ble_eq_true rfl, Nat.le_of_ble_eq_true rfl⟩ (fun x_180 f_181 H locs hw hP hD hS => ?_)
                            obtain ⟨rfl, bx_180⟩ := hw
                            obtain ⟨a_184, a_185, v_186, hfo_183, ⟨ma_184, ka_184⟩, ⟨ma_185, ka_185⟩, bv_186⟩ := un_9 (hG _ ma_99) ka_99
                            refine tk_VvP (As := [.int x_180]) (rest := []) (n := 1) hx hb hml hown hU hN hZ (s_X9_push_k9 l (dC, dI) cI cL cZ cR cG cH Z kd L f_151 hG a_99 ma_99 ka_99 x_180 (by constructor <;> omega)) wd_1399 wd_478 wd_479 wd_85 wd_480 (by decide +kernel) ⟨Nat.le_of_ble_eq_true rfl, Nat.le_of_ble_eq_true rfl⟩ hK hP hD hS ma_99 hfo_183 9 rfl rfl rfl hl.1 rfl (Nat.le_of_ble_eq_true rfl) dX11_example_161 ⟨Nat.le_of_ble_eq_true rfl, Nat.le_of_ble_eq_true rfl⟩ (fun f_188 H locs hw hP hD hS => ?_)
                            obtain ⟨hG, hkc_189⟩ := hw
                            have hfo_191 : f_188 o0 = .inr (11, [.ref a_36, .int v_37, .ref a_4, .ref a_5, .ref a_40, .ref a_7, .ref a_8, .ref a_9, .int v_10, .ref a_11, .ref a_12, .ref a_47, .int v_48, .int v_49, .ref a_50, .int v_51, .ref a_18, .ref a_53, .int v_54]) := by rw [hkc_189 o0 (by rw [ko0]; decide) (by rw [ko0]; decide)]; exact hfo_152
                            have hfo_192 : f_188 a_7 = .inr (6, [.int v_56, .int v_96, .ref a_97, .ref a_98, .ref a_99, .int v_100, .ref a_101, .ref a_102, .ref a_103]) := by rw [hkc_189 a_7 (by rw [ka_7]; decide) (by rw [ka_7]; decide)]; exact hfo_153
                            have hfo_193 : f_188 a_36 = .inl (cI, 600, .inl g_161) := by rw [hkc_189 a_36 (by rw [ka_36]; decide) (by rw [ka_36]; decide)]; exact hfo_160
                            have hfo_194 : f_188 a_5 = .inr (7, [.ref a_164, .int v_165, .ref a_166, .ref a_167, .ref a_168, .ref a_169, .int v_170, .ref a_171, .ref a_172, .ref a_173, .ref a_174, .ref a_175, .int v_176, .ref a_177, .ref a_178, .ref a_179]) := by rw [hkc_189 a_5 (by rw [ka_5]; decide) (by rw [ka_5]; decide)]; exact hfo_163
                            have hfo_195 : f_188 a_99 = .inr (9, [.ref a_184, .ref a_185, .int v_186]) := by rw [hkc_189 a_99 (by rw [ka_99]; decide) (by rw [ka_99]; decide)]; exact hfo_183
                            have hfr0 : ∀ b, kd b ≠ 6 → kd b ≠ 9 → kd b ≠ 11 → kd b ≠ 504 → kd b ≠ 505 → f_188 b = f b := fun b q6 q9 q11 q504 q505 => (hkc_189 b q504 q505).trans (hfr0 b q6 q9 q11 q504 q505)
                            have hfr6_0 : ∀ b, kd b = 6 → fldI (f_188 b) 0 = fldI (f b) 0 := fun b kb => (congrArg (fun x => fldI x 0) (hkc_189 b (by rw [kb]; decide) (by rw [kb]; decide))).trans (hfr6_0 b kb)
                            have hfr11_8 : ∀ b, kd b = 11 → fldI (f_188 b) 8 = fldI (f b) 8 := fun b kb => (congrArg (fun x => fldI x 8) (hkc_189 b (by rw [kb]; decide) (by rw [kb]; decide))).trans (hfr11_8 b kb)
                            have hrr11_2 : ∀ b, kd b = 11 → fldR (f_188 b) 2 = fldR (f b) 2 := fun b kb => (congrArg (fun x => fldR x 2) (hkc_189 b (by rw [kb]; decide) (by rw [kb]; decide))).trans (hrr11_2 b kb)
                            have hrr11_3 : ∀ b, kd b = 11 → fldR (f_188 b) 3 = fldR (f b) 3 := fun b kb => (congrArg (fun x => fldR x 3) (hkc_189 b (by rw [kb]; decide) (by rw [kb]; decide))).trans (hrr11_3 b kb)
                            have hrr11_5 : ∀ b, kd b = 11 → fldR (f_188 b) 5 = fldR (f b) 5 := fun b kb => (congrArg (fun x => fldR x 5) (hkc_189 b (by rw [kb]; decide) (by rw [kb]; decide))).trans (hrr11_5 b kb)
                            have hrr11_6 : ∀ b, kd b = 11 → fldR (f_188 b) 6 = fldR (f b) 6 := fun b kb => (congrArg (fun x => fldR x 6) (hkc_189 b (by rw [kb]; decide) (by rw [kb]; decide))).trans (hrr11_6 b kb)
                            have hrr11_7 : ∀ b, kd b = 11 → fldR (f_188 b) 7 = fldR (f b) 7 := fun b kb => (congrArg (fun x => fldR x 7) (hkc_189 b (by rw [kb]; decide) (by rw [kb]; decide))).trans (hrr11_7 b kb)
                            have hrr11_9 : ∀ b, kd b = 11 → fldR (f_188 b) 9 = fldR (f b) 9 := fun b kb => (congrArg (fun x => fldR x 9) (hkc_189 b (by rw [kb]; decide) (by rw [kb]; decide))).trans (hrr11_9 b kb)
                            have hrr11_10 : ∀ b, kd b = 11 → fldR (f_188 b) 10 = fldR (f b) 10 := fun b kb => (congrArg (fun x => fldR x 10) (hkc_189 b (by rw [kb]; decide) (by rw [kb]; decide))).trans (hrr11_10 b kb)
                            have hrr11_16 : ∀ b, kd b = 11 → fldR (f_188 b) 16 = fldR (f b) 16 := fun b kb => (congrArg (fun x => fldR x 16) (hkc_189 b (by rw [kb]; decide) (by rw [kb]; decide))).trans (hrr11_16 b kb)
                            obtain ⟨x_196, ex_196⟩ : ∃ y : Int32, y_149 + 1 = y := ⟨_, rfl⟩
                            have hx_196 : x_196.toInt = y_149.toInt + 1 := by rw [← ex_196, ad_I (by rw [ti_1]; omega) (by rw [ti_1]; omega), ti_1]
                            have bx_196 : (2 ≤ x_196.toInt ∧ x_196.toInt ≤ 600) := by constructor <;> omega
                            refine lv_iinc (v := x_196) (lv' := [(5, .int x_196), (4, .int x_74), (3, .int x_70), (2, .int x_21), (0, .ref o0), (1, .int p1)]) hx hb dX11_example_164 hl (k := 0) rfl ex_196 (by decide) rfl (fun ls hl => ?_)
                            refine lv_goto (tgt := 134) hx hb dX11_example_167 (by decide) ?_
                            exact ih_hloop_148 x_196 (by constructor <;> omega) f_188 hG _ _ hP hS hD hfr0 hfr6_0 hfr11_8 hrr11_2 hrr11_3 hrr11_5 hrr11_6 hrr11_7 hrr11_9 hrr11_10 hrr11_16 hfo_191 hfo_192 (by omega) ls (lv_sub hl [0, 1, 2, 3, 4, 5] rfl)
                      exact hloop_148 600 x_129 (by constructor <;> omega) f_125 hG _ _ hP hS hD hfr0 hfr6_0 hfr11_8 hrr11_2 hrr11_3 hrr11_5 hrr11_6 hrr11_7 hrr11_9 hrr11_10 hrr11_16 hfo_126 hfo_127 (by omega) ls hl
                    · skip
                      rw [Int32.le_iff_toInt_le] at c_128
                      refine lv_aload_n hx hb dX11_example_99 rfl (lv_at hl 4 rfl) ?_
                      refine tk_getP (D := (dC, dI)) (ci := 11) (v := .ref a_7) (C := RX11) (T := TX11) (N := 19) hx hb hU inlX11 hown hK hP mo0 hfo_126 rfl 5 (by decide) (hU _ wd_25) (fun _ h9 => h9) rfl dX11_example_100 ?_
                      refine tk_getP (D := (dC, dI)) (ci := 6) (v := .ref a_98) (C := RX6) (T := TX6) (N := 9) hx hb hU inlX6 hown hK hP ma_7 hfo_127 rfl 3 (by decide) (hU _ wd_1387) (fun _ h9 => h9) rfl dX11_example_103 ?_
                      refine lv_aload_n hx hb dX11_example_106 rfl (lv_at hl 4 rfl) ?_
                      refine tk_getP (D := (dC, dI)) (ci := 11) (v := .ref a_5) (C := RX11) (T := TX11) (N := 19) hx hb hU inlX11 hown hK hP mo0 hfo_126 rfl 3 (by decide) (hU _ wd_19) (fun _ h9 => h9) rfl dX11_example_107 ?_
                      refine lv_aload_n hx hb dX11_example_110 rfl (lv_at hl 4 rfl) ?_
                      refine tk_getP (D := (dC, dI)) (ci := 11) (v := .ref a_36) (C := RX11) (T := TX11) (N := 19) hx hb hU inlX11 hown hK hP mo0 hfo_126 rfl 0 (by decide) (hU _ wd_13) (fun _ h9 => h9) rfl dX11_example_111 ?_
                      refine lv_iload hx hb dX11_example_114 (lv_at hl 0 rfl) ?_
                      obtain ⟨g_198, hfo_197, hbg_198⟩ := un_533 (hG _ ma_36) ka_36
                      refine tk_ildP hx hb hK hP 0 ma_36 hfo_197 rfl (vp_in_iff.mpr (by constructor <;> omega)) dX11_example_116 ?_
                      refine lv_topi (fun x_199 ex_199 => ?_)
                      have bx_199 : ((-2147483648) ≤ x_199.toInt ∧ x_199.toInt ≤ 2147483647) := ⟨i32_lo _, i32_hi _⟩
                      obtain ⟨a_201, v_202, a_203, a_204, a_205, a_206, v_207, a_208, a_209, a_210, a_211, a_212, v_213, a_214, a_215, a_216, hfo_200, ⟨ma_201, ka_201⟩, bv_202, ⟨ma_203, ka_203⟩, ⟨ma_204, ka_204⟩, ⟨ma_205, ka_205⟩, ⟨ma_206, ka_206⟩, bv_207, ⟨ma_208, ka_208⟩, ⟨ma_209, ka_209⟩, ⟨ma_210, ka_210⟩, ⟨ma_211, ka_211⟩, ⟨ma_212, ka_212⟩, bv_213, ⟨ma_214, ka_214⟩, ⟨ma_215, ka_215⟩, ⟨ma_216, ka_216⟩⟩ := un_7 (hG _ ma_5) ka_5
                      refine tk_ViP (As := [.int x_199]) (rest := [.ref a_98]) (n := 1) hx hb hml hown hU hN hZ (s_X7_signOf_k7 l (dC, dI) cI cL cZ cR cG cH Z kd L f_125 hG a_5 ma_5 ka_5 x_199) wd_717 wd_346 wd_347 wd_28 wd_348 (by decide +kernel) ⟨Nat.le_of_ble_eq_true rfl, Nat.le_of_ble_eq_true rfl⟩ hK hP hD hS ma_5 hfo_200 7 rfl rfl rfl hl.1 rfl (Nat.le_of_ble_eq_true rfl) dX11_example_117 ⟨Nat.le_of_ble_eq_true rfl, Nat.le_of_ble_eq_true rfl⟩ (fun x_217 f_218 H locs hw hP hD hS => ?_)
                      obtain ⟨rfl, bx_217⟩ := hw
                      obtain ⟨a_221, a_222, v_223, hfo_220, ⟨ma_221, ka_221⟩, ⟨ma_222, ka_222⟩, bv_223⟩ := un_9 (hG _ ma_98) ka_98
                      refine tk_VvP (As := [.int x_217]) (rest := []) (n := 1) hx hb hml hown hU hN hZ (s_X9_push_k9 l (dC, dI) cI cL cZ cR cG cH Z kd L f_125 hG a_98 ma_98 ka_98 x_217 (by constructor <;> omega)) wd_1399 wd_478 wd_479 wd_85 wd_480 (by decide +kernel) ⟨Nat.le_of_ble_eq_true rfl, Nat.le_of_ble_eq_true rfl⟩ hK hP hD hS ma_98 hfo_220 9 rfl rfl rfl hl.1 rfl (Nat.le_of_ble_eq_true rfl) dX11_example_120 ⟨Nat.le_of_ble_eq_true rfl, Nat.le_of_ble_eq_true rfl⟩ (fun f_225 H locs hw hP hD hS => ?_)
                      obtain ⟨hG, hkc_226⟩ := hw
                      have hfo_228 : f_225 o0 = .inr (11, [.ref a_36, .int v_37, .ref a_4, .ref a_5, .ref a_40, .ref a_7, .ref a_8, .ref a_9, .int v_10, .ref a_11, .ref a_12, .ref a_47, .int v_48, .int v_49, .ref a_50, .int v_51, .ref a_18, .ref a_53, .int v_54]) := by rw [hkc_226 o0 (by rw [ko0]; decide) (by rw [ko0]; decide)]; exact hfo_126
                      have hfo_229 : f_225 a_7 = .inr (6, [.int v_56, .int v_96, .ref a_97, .ref a_98, .ref a_99, .int v_100, .ref a_101, .ref a_102, .ref a_103]) := by rw [hkc_226 a_7 (by rw [ka_7]; decide) (by rw [ka_7]; decide)]; exact hfo_127
                      have hfo_230 : f_225 a_36 = .inl (cI, 600, .inl g_198) := by rw [hkc_226 a_36 (by rw [ka_36]; decide) (by rw [ka_36]; decide)]; exact hfo_197
                      have hfo_231 : f_225 a_5 = .inr (7, [.ref a_201, .int v_202, .ref a_203, .ref a_204, .ref a_205, .ref a_206, .int v_207, .ref a_208, .ref a_209, .ref a_210, .ref a_211, .ref a_212, .int v_213, .ref a_214, .ref a_215, .ref a_216]) := by rw [hkc_226 a_5 (by rw [ka_5]; decide) (by rw [ka_5]; decide)]; exact hfo_200
                      have hfo_232 : f_225 a_98 = .inr (9, [.ref a_221, .ref a_222, .int v_223]) := by rw [hkc_226 a_98 (by rw [ka_98]; decide) (by rw [ka_98]; decide)]; exact hfo_220
                      have hfr0 : ∀ b, kd b ≠ 6 → kd b ≠ 9 → kd b ≠ 11 → kd b ≠ 504 → kd b ≠ 505 → f_225 b = f b := fun b q6 q9 q11 q504 q505 => (hkc_226 b q504 q505).trans (hfr0 b q6 q9 q11 q504 q505)
                      have hfr6_0 : ∀ b, kd b = 6 → fldI (f_225 b) 0 = fldI (f b) 0 := fun b kb => (congrArg (fun x => fldI x 0) (hkc_226 b (by rw [kb]; decide) (by rw [kb]; decide))).trans (hfr6_0 b kb)
                      have hfr11_8 : ∀ b, kd b = 11 → fldI (f_225 b) 8 = fldI (f b) 8 := fun b kb => (congrArg (fun x => fldI x 8) (hkc_226 b (by rw [kb]; decide) (by rw [kb]; decide))).trans (hfr11_8 b kb)
                      have hrr11_2 : ∀ b, kd b = 11 → fldR (f_225 b) 2 = fldR (f b) 2 := fun b kb => (congrArg (fun x => fldR x 2) (hkc_226 b (by rw [kb]; decide) (by rw [kb]; decide))).trans (hrr11_2 b kb)
                      have hrr11_3 : ∀ b, kd b = 11 → fldR (f_225 b) 3 = fldR (f b) 3 := fun b kb => (congrArg (fun x => fldR x 3) (hkc_226 b (by rw [kb]; decide) (by rw [kb]; decide))).trans (hrr11_3 b kb)
                      have hrr11_5 : ∀ b, kd b = 11 → fldR (f_225 b) 5 = fldR (f b) 5 := fun b kb => (congrArg (fun x => fldR x 5) (hkc_226 b (by rw [kb]; decide) (by rw [kb]; decide))).trans (hrr11_5 b kb)
                      have hrr11_6 : ∀ b, kd b = 11 → fldR (f_225 b) 6 = fldR (f b) 6 := fun b kb => (congrArg (fun x => fldR x 6) (hkc_226 b (by rw [kb]; decide) (by rw [kb]; decide))).trans (hrr11_6 b kb)
                      have hrr11_7 : ∀ b, kd b = 11 → fldR (f_225 b) 7 = fldR (f b) 7 := fun b kb => (congrArg (fun x => fldR x 7) (hkc_226 b (by rw [kb]; decide) (by rw [kb]; decide))).trans (hrr11_7 b kb)
                      have hrr11_9 : ∀ b, kd b = 11 → fldR (f_225 b) 9 = fldR (f b) 9 := fun b kb => (congrArg (fun x => fldR x 9) (hkc_226 b (by rw [kb]; decide) (by rw [kb]; decide))).trans (hrr11_9 b kb)
                      have hrr11_10 : ∀ b, kd b = 11 → fldR (f_225 b) 10 = fldR (f b) 10 := fun b kb => (congrArg (fun x => fldR x 10) (hkc_226 b (by rw [kb]; decide) (by rw [kb]; decide))).trans (hrr11_10 b kb)
                      have hrr11_16 : ∀ b, kd b = 11 → fldR (f_225 b) 16 = fldR (f b) 16 := fun b kb => (congrArg (fun x => fldR x 16) (hkc_226 b (by rw [kb]; decide) (by rw [kb]; decide))).trans (hrr11_16 b kb)
                      obtain ⟨x_233, ex_233⟩ : ∃ y : Int32, y_123 + 1 = y := ⟨_, rfl⟩
                      have hx_233 : x_233.toInt = y_123.toInt + 1 := by rw [← ex_233, ad_I (by rw [ti_1]; omega) (by rw [ti_1]; omega), ti_1]
                      have bx_233 : (1 ≤ x_233.toInt ∧ x_233.toInt ≤ 8) := by constructor <;> omega
                      refine lv_iinc (v := x_233) (lv' := [(5, .int x_233), (4, .int x_74), (3, .int x_70), (2, .int x_21), (0, .ref o0), (1, .int p1)]) hx hb dX11_example_123 hl (k := 0) rfl ex_233 (by decide) rfl (fun ls hl => ?_)
                      refine lv_goto (tgt := 93) hx hb dX11_example_126 (by decide) ?_
                      exact ih_hloop_122 x_233 (by constructor <;> omega) f_225 hG _ _ hP hS hD hfr0 hfr6_0 hfr11_8 hrr11_2 hrr11_3 hrr11_5 hrr11_6 hrr11_7 hrr11_9 hrr11_10 hrr11_16 hfo_228 hfo_229 (by omega) ls (lv_sub hl [0, 1, 2, 3, 4, 5] rfl)
                exact hloop_122 9 0 (by decide) f_89 hG _ _ hP hS hD hfr0 hfr6_0 hfr11_8 hrr11_2 hrr11_3 hrr11_5 hrr11_6 hrr11_7 hrr11_9 hrr11_10 hrr11_16 hfo_93 hfo_94 (by (try rw [ti_0]) <;> omega) ls hl
              · skip
                rw [← Int32.toInt_inj, ti_0] at c_87
                refine lv_iconst (v := (-1)) hx hb dX11_example_80 (by decide) ?_
                exact W.iret (v := (-1)) hx hb hr (fun t ht hW => ⟨⟨(-1), f_22, rfl, ⟨hG, (by decide), hfr0, hfr6_0, hfr11_8, hrr11_2, hrr11_3, hrr11_5, hrr11_6, hrr11_7, hrr11_9, hrr11_10, hrr11_16, (by intro w1 z1 e1 d1; rw [hfo_1] at e1; rw [hfo_35] at d1; obtain rfl := Option.some.inj e1; obtain rfl := Option.some.inj d1; (try rw [ti_m1]) <;> omega)⟩, by rw [ht]; exact hP, va_K.moved hW.alike hK, pl_in hD⟩, hS.F ht⟩) hS.2.2 dX11_example_81
          · skip
            rw [Int32.le_iff_toInt_le, ti_2] at c_78
            refine lv_iconst (v := (-1)) hx hb dX11_example_58 (by decide) ?_
            exact W.iret (v := (-1)) hx hb hr (fun t ht hW => ⟨⟨(-1), f_22, rfl, ⟨hG, (by decide), hfr0, hfr6_0, hfr11_8, hrr11_2, hrr11_3, hrr11_5, hrr11_6, hrr11_7, hrr11_9, hrr11_10, hrr11_16, (by intro w1 z1 e1 d1; rw [hfo_1] at e1; rw [hfo_35] at d1; obtain rfl := Option.some.inj e1; obtain rfl := Option.some.inj d1; (try rw [ti_m1]) <;> omega)⟩, by rw [ht]; exact hP, va_K.moved hW.alike hK, pl_in hD⟩, hS.F ht⟩) hS.2.2 dX11_example_59
  · skip
    rw [Int32.lt_iff_toInt_lt, ti_12] at c_69
    refine lv_iconst (v := (-1)) hx hb dX11_example_20 (by decide) ?_
    exact W.iret (v := (-1)) hx hb hr (fun t ht hW => ⟨⟨(-1), f_22, rfl, ⟨hG, (by decide), hfr0, hfr6_0, hfr11_8, hrr11_2, hrr11_3, hrr11_5, hrr11_6, hrr11_7, hrr11_9, hrr11_10, hrr11_16, (by intro w1 z1 e1 d1; rw [hfo_1] at e1; rw [hfo_35] at d1; obtain rfl := Option.some.inj e1; obtain rfl := Option.some.inj d1; (try rw [ti_m1]) <;> omega)⟩, by rw [ht]; exact hP, va_K.moved hW.alike hK, pl_in hD⟩, hS.F ht⟩) hS.2.2 dX11_example_21
set_option maxHeartbeats 8000000 in
set_option maxRecDepth 100000 in
theorem s_X11_learn_k11 (l : Launch) (D : va_G) (cI cL cZ cR cG cH : ClassId) (Z : zT) (kd : Nat → Nat) (L : List Nat) (f : Nat → va_E) (hG : GI (okc cI cL cZ cR cG cH L kd) kd L f) (o0 : Nat) (mo0 : o0 ∈ L) (ko0 : kd o0 = 11) : mPI l D cI cL cZ cR cG cH Z yX11_learn cX11_learn 1 (some .int) 6 154 [.ref o0] L f (fun (r : Int32) (f9 : Nat → va_E) => GI (okc cI cL cZ cR cG cH L kd) kd L f9 ∧ ((-1) ≤ r.toInt ∧ r.toInt ≤ 255) ∧ (∀ b, kd b ≠ 3 → kd b ≠ 507 → kd b ≠ 525 → kd b ≠ 527 → kd b ≠ 531 → kd b ≠ 532 → f9 b = f b) ∧ (∀ b, kd b = 3 → fldR (f9 b) 0 = fldR (f b) 0) ∧ (∀ b, kd b = 3 → fldR (f9 b) 3 = fldR (f b) 3)) := by
  obtain ⟨dC, dI⟩ := D
  refine Met.ofW (cc := cX11_learn) (maxL := 1) (ret := (some .int)) (by decide) rfl ?_
  intro p e s m args below meth c s₁ B hml hv
  obtain ⟨rfl, hP, hK, hD0, hN, hZ⟩ := hv
  have hx := B.exec
  have hb := B.bytes
  have hr := B.returns
  have hU : ∀ w ∈ wsU, w.before _ s = true := fun w h => atoms_spec (ws := wU yX11_learn cX11_learn 1 (some .int)) B.pre w (List.mem_cons_of_mem _ h)
  have hown : s.vm.findClass RX11 = some m.cls := findClass_of_methodNamed B.named
  have hlocks := B.notSynchronized
  have hD := pl_in hD0
  have hS : va_S (fun q => q ∈ L) s.heap s.heap [] := va_S.rf
  have hl := lv_entry ([.ref o0]) (n := 1) (Nat.le_of_ble_eq_true rfl)
  rw [lg_entry_eq]
  generalize (lg_sl ([.ref o0]) ++ List.replicate (1 - (lg_sl ([.ref o0])).length) Slot.unset).toArray = ls at hl ⊢
  have hl : lv_has ls 1 [(0, .ref o0)] := hl
  have hfr0 : ∀ b, kd b ≠ 3 → kd b ≠ 507 → kd b ≠ 525 → kd b ≠ 527 → kd b ≠ 531 → kd b ≠ 532 → f b = f b := fun _ _ _ _ _ _ _ => rfl
  have hrr3_0 : ∀ b, kd b = 3 → fldR (f b) 0 = fldR (f b) 0 := fun _ _ => rfl
  have hrr3_3 : ∀ b, kd b = 3 → fldR (f b) 3 = fldR (f b) 3 := fun _ _ => rfl
  refine lv_aload_n hx hb dX11_learn_0 rfl (lv_at hl 0 rfl) ?_
  obtain ⟨a_2, v_3, a_4, a_5, a_6, a_7, a_8, a_9, v_10, a_11, a_12, a_13, v_14, v_15, a_16, v_17, a_18, a_19, v_20, hfo_1, ⟨ma_2, ka_2⟩, bv_3, ⟨ma_4, ka_4⟩, ⟨ma_5, ka_5⟩, ⟨ma_6, ka_6⟩, ⟨ma_7, ka_7⟩, ⟨ma_8, ka_8⟩, ⟨ma_9, ka_9⟩, bv_10, ⟨ma_11, ka_11⟩, ⟨ma_12, ka_12⟩, ⟨ma_13, ka_13⟩, bv_14, ⟨ma_16, ka_16⟩, bv_17, ⟨ma_18, ka_18⟩, ⟨ma_19, ka_19⟩⟩ := un_11 (hG _ mo0) ko0
  have bv_15 : ((-2147483648) ≤ v_15.toInt ∧ v_15.toInt ≤ 2147483647) := ⟨i32_lo _, i32_hi _⟩
  have bv_20 : ((-2147483648) ≤ v_20.toInt ∧ v_20.toInt ≤ 2147483647) := ⟨i32_lo _, i32_hi _⟩
  refine tk_getP (D := (dC, dI)) (ci := 11) (v := .ref a_7) (C := RX11) (T := TX11) (N := 19) hx hb hU inlX11 hown hK hP mo0 hfo_1 rfl 5 (by decide) (hU _ wd_25) (fun _ h9 => h9) rfl dX11_learn_1 ?_
  refine lv_aload_n hx hb dX11_learn_4 rfl (lv_at hl 0 rfl) ?_
  refine tk_getP (D := (dC, dI)) (ci := 11) (v := .ref a_4) (C := RX11) (T := TX11) (N := 19) hx hb hU inlX11 hown hK hP mo0 hfo_1 rfl 2 (by decide) (hU _ wd_17) (fun _ h9 => h9) rfl dX11_learn_5 ?_
  refine lv_aload_n hx hb dX11_learn_8 rfl (lv_at hl 0 rfl) ?_
  refine tk_getP (D := (dC, dI)) (ci := 11) (v := .ref a_5) (C := RX11) (T := TX11) (N := 19) hx hb hU inlX11 hown hK hP mo0 hfo_1 rfl 3 (by decide) (hU _ wd_19) (fun _ h9 => h9) rfl dX11_learn_9 ?_
  obtain ⟨a_22, v_23, a_24, a_25, a_26, a_27, v_28, a_29, a_30, a_31, a_32, a_33, v_34, a_35, a_36, a_37, hfo_21, ⟨ma_22, ka_22⟩, bv_23, ⟨ma_24, ka_24⟩, ⟨ma_25, ka_25⟩, ⟨ma_26, ka_26⟩, ⟨ma_27, ka_27⟩, bv_28, ⟨ma_29, ka_29⟩, ⟨ma_30, ka_30⟩, ⟨ma_31, ka_31⟩, ⟨ma_32, ka_32⟩, ⟨ma_33, ka_33⟩, bv_34, ⟨ma_35, ka_35⟩, ⟨ma_36, ka_36⟩, ⟨ma_37, ka_37⟩⟩ := un_7 (hG _ ma_5) ka_5
  refine tk_getP (D := (dC, dI)) (ci := 7) (v := .int v_34) (C := RX7) (T := TX7) (N := 16) hx hb hU inlX7 hown hK hP ma_5 hfo_21 rfl 12 (by decide) (hU _ wd_235) (fun _ h9 => h9) rfl dX11_learn_12 ?_
  obtain ⟨v_39, v_40, a_41, a_42, a_43, v_44, a_45, a_46, a_47, hfo_38, bv_40, ⟨ma_41, ka_41⟩, ⟨ma_42, ka_42⟩, ⟨ma_43, ka_43⟩, ⟨ma_45, ka_45⟩, ⟨ma_46, ka_46⟩, ⟨ma_47, ka_47⟩⟩ := un_6 (hG _ ma_7) ka_7
  have bv_39 : ((-2147483648) ≤ v_39.toInt ∧ v_39.toInt ≤ 2147483647) := ⟨i32_lo _, i32_hi _⟩
  have bv_44 : ((-2147483648) ≤ v_44.toInt ∧ v_44.toInt ≤ 2147483647) := ⟨i32_lo _, i32_hi _⟩
  refine tk_VvP (As := [.ref a_4, .int v_34]) (rest := []) (n := 2) hx hb hml hown hU hN hZ (s_X6_study_k6_k3 l (dC, dI) cI cL cZ cR cG cH Z kd L f hG a_7 ma_7 ka_7 a_4 ma_4 ka_4 v_34 (by constructor <;> omega)) wd_1408 wd_1409 wd_1410 wd_24 wd_1411 (by decide +kernel) ⟨Nat.le_of_ble_eq_true rfl, Nat.le_of_ble_eq_true rfl⟩ hK hP hD hS ma_7 hfo_38 6 rfl rfl rfl hl.1 rfl (Nat.le_of_ble_eq_true rfl) dX11_learn_15 ⟨Nat.le_of_ble_eq_true rfl, Nat.le_of_ble_eq_true rfl⟩ (fun f_49 H locs hw hP hD hS => ?_)
  obtain ⟨hG, hkc_50, hrc_51, hrc_52⟩ := hw
  have hfo_54 : f_49 o0 = .inr (11, [.ref a_2, .int v_3, .ref a_4, .ref a_5, .ref a_6, .ref a_7, .ref a_8, .ref a_9, .int v_10, .ref a_11, .ref a_12, .ref a_13, .int v_14, .int v_15, .ref a_16, .int v_17, .ref a_18, .ref a_19, .int v_20]) := by rw [hkc_50 o0 (by rw [ko0]; decide) (by rw [ko0]; decide) (by rw [ko0]; decide) (by rw [ko0]; decide) (by rw [ko0]; decide) (by rw [ko0]; decide)]; exact hfo_1
  have hfo_55 : f_49 a_5 = .inr (7, [.ref a_22, .int v_23, .ref a_24, .ref a_25, .ref a_26, .ref a_27, .int v_28, .ref a_29, .ref a_30, .ref a_31, .ref a_32, .ref a_33, .int v_34, .ref a_35, .ref a_36, .ref a_37]) := by rw [hkc_50 a_5 (by rw [ka_5]; decide) (by rw [ka_5]; decide) (by rw [ka_5]; decide) (by rw [ka_5]; decide) (by rw [ka_5]; decide) (by rw [ka_5]; decide)]; exact hfo_21
  have hfo_56 : f_49 a_7 = .inr (6, [.int v_39, .int v_40, .ref a_41, .ref a_42, .ref a_43, .int v_44, .ref a_45, .ref a_46, .ref a_47]) := by rw [hkc_50 a_7 (by rw [ka_7]; decide) (by rw [ka_7]; decide) (by rw [ka_7]; decide) (by rw [ka_7]; decide) (by rw [ka_7]; decide) (by rw [ka_7]; decide)]; exact hfo_38
  have hfr0 : ∀ b, kd b ≠ 3 → kd b ≠ 507 → kd b ≠ 525 → kd b ≠ 527 → kd b ≠ 531 → kd b ≠ 532 → f_49 b = f b := fun b q3 q507 q525 q527 q531 q532 => (hkc_50 b q3 q507 q525 q527 q531 q532).trans (hfr0 b q3 q507 q525 q527 q531 q532)
  have hrr3_0 : ∀ b, kd b = 3 → fldR (f_49 b) 0 = fldR (f b) 0 := fun b kb => (hrc_51 b kb).trans (hrr3_0 b kb)
  have hrr3_3 : ∀ b, kd b = 3 → fldR (f_49 b) 3 = fldR (f b) 3 := fun b kb => (hrc_52 b kb).trans (hrr3_3 b kb)
  refine lv_aload_n hx hb dX11_learn_18 rfl (lv_at hl 0 rfl) ?_
  refine tk_getP (D := (dC, dI)) (ci := 11) (v := .ref a_7) (C := RX11) (T := TX11) (N := 19) hx hb hU inlX11 hown hK hP mo0 hfo_54 rfl 5 (by decide) (hU _ wd_25) (fun _ h9 => h9) rfl dX11_learn_19 ?_
  refine lv_aload_n hx hb dX11_learn_22 rfl (lv_at hl 0 rfl) ?_
  refine tk_getP (D := (dC, dI)) (ci := 11) (v := .ref a_5) (C := RX11) (T := TX11) (N := 19) hx hb hU inlX11 hown hK hP mo0 hfo_54 rfl 3 (by decide) (hU _ wd_19) (fun _ h9 => h9) rfl dX11_learn_23 ?_
  refine tk_getP (D := (dC, dI)) (ci := 7) (v := .int v_34) (C := RX7) (T := TX7) (N := 16) hx hb hU inlX7 hown hK hP ma_5 hfo_55 rfl 12 (by decide) (hU _ wd_235) (fun _ h9 => h9) rfl dX11_learn_26 ?_
  refine tk_ViP (As := [.int v_34]) (rest := []) (n := 1) hx hb hml hown hU hN hZ (s_X6_leastTrue_k6 l (dC, dI) cI cL cZ cR cG cH Z kd L f_49 hG a_7 ma_7 ka_7 v_34 (by constructor <;> omega)) wd_1436 wd_1437 wd_1438 wd_24 wd_1439 (by decide +kernel) ⟨Nat.le_of_ble_eq_true rfl, Nat.le_of_ble_eq_true rfl⟩ hK hP hD hS ma_7 hfo_56 6 rfl rfl rfl hl.1 rfl (Nat.le_of_ble_eq_true rfl) dX11_learn_29 ⟨Nat.le_of_ble_eq_true rfl, Nat.le_of_ble_eq_true rfl⟩ (fun x_57 f_58 H locs hw hP hD hS => ?_)
  obtain ⟨rfl, bx_57⟩ := hw
  exact W.iret (v := x_57) hx hb hr (fun t ht hW => ⟨⟨x_57, f_49, rfl, ⟨hG, (by constructor <;> omega), hfr0, hrr3_0, hrr3_3⟩, by rw [ht]; exact hP, va_K.moved hW.alike hK, pl_in hD⟩, hS.F ht⟩) hS.2.2 dX11_learn_32
set_option maxHeartbeats 8000000 in
set_option maxRecDepth 100000 in
theorem s_X11_fits_k11 (l : Launch) (D : va_G) (cI cL cZ cR cG cH : ClassId) (Z : zT) (kd : Nat → Nat) (L : List Nat) (f : Nat → va_E) (hG : GI (okc cI cL cZ cR cG cH L kd) kd L f) (o0 : Nat) (mo0 : o0 ∈ L) (ko0 : kd o0 = 11) (p1 : Int32) : mPI l D cI cL cZ cR cG cH Z yX11_fits cX11_fits 2 (some .int) 6 154 [.ref o0, .int p1] L f (fun (r : Int32) (f9 : Nat → va_E) => GI (okc cI cL cZ cR cG cH L kd) kd L f9 ∧ ((-2147483648) ≤ r.toInt ∧ r.toInt ≤ 2147483647) ∧ (∀ b, kd b ≠ 3 → kd b ≠ 507 → kd b ≠ 525 → kd b ≠ 527 → kd b ≠ 531 → kd b ≠ 532 → f9 b = f b) ∧ (∀ b, kd b = 3 → fldR (f9 b) 0 = fldR (f b) 0) ∧ (∀ b, kd b = 3 → fldR (f9 b) 3 = fldR (f b) 3)) := by
  obtain ⟨dC, dI⟩ := D
  refine Met.ofW (cc := cX11_fits) (maxL := 2) (ret := (some .int)) (by decide) rfl ?_
  intro p e s m args below meth c s₁ B hml hv
  obtain ⟨rfl, hP, hK, hD0, hN, hZ⟩ := hv
  have hx := B.exec
  have hb := B.bytes
  have hr := B.returns
  have hU : ∀ w ∈ wsU, w.before _ s = true := fun w h => atoms_spec (ws := wU yX11_fits cX11_fits 2 (some .int)) B.pre w (List.mem_cons_of_mem _ h)
  have hown : s.vm.findClass RX11 = some m.cls := findClass_of_methodNamed B.named
  have hlocks := B.notSynchronized
  have hD := pl_in hD0
  have hS : va_S (fun q => q ∈ L) s.heap s.heap [] := va_S.rf
  have hl := lv_entry ([.ref o0, .int p1]) (n := 2) (Nat.le_of_ble_eq_true rfl)
  rw [lg_entry_eq]
  generalize (lg_sl ([.ref o0, .int p1]) ++ List.replicate (2 - (lg_sl ([.ref o0, .int p1])).length) Slot.unset).toArray = ls at hl ⊢
  have hl : lv_has ls 2 [(0, .ref o0), (1, .int p1)] := hl
  have bp1 : ((-2147483648) ≤ p1.toInt ∧ p1.toInt ≤ 2147483647) := ⟨i32_lo _, i32_hi _⟩
  have hfr0 : ∀ b, kd b ≠ 3 → kd b ≠ 507 → kd b ≠ 525 → kd b ≠ 527 → kd b ≠ 531 → kd b ≠ 532 → f b = f b := fun _ _ _ _ _ _ _ => rfl
  have hrr3_0 : ∀ b, kd b = 3 → fldR (f b) 0 = fldR (f b) 0 := fun _ _ => rfl
  have hrr3_3 : ∀ b, kd b = 3 → fldR (f b) 3 = fldR (f b) 3 := fun _ _ => rfl
  refine lv_aload_n hx hb dX11_fits_0 rfl (lv_at hl 0 rfl) ?_
  refine lv_iload_n hx hb dX11_fits_1 rfl (lv_at hl 1 rfl) ?_
  obtain ⟨a_2, v_3, a_4, a_5, a_6, a_7, a_8, a_9, v_10, a_11, a_12, a_13, v_14, v_15, a_16, v_17, a_18, a_19, v_20, hfo_1, ⟨ma_2, ka_2⟩, bv_3, ⟨ma_4, ka_4⟩, ⟨ma_5, ka_5⟩, ⟨ma_6, ka_6⟩, ⟨ma_7, ka_7⟩, ⟨ma_8, ka_8⟩, ⟨ma_9, ka_9⟩, bv_10, ⟨ma_11, ka_11⟩, ⟨ma_12, ka_12⟩, ⟨ma_13, ka_13⟩, bv_14, ⟨ma_16, ka_16⟩, bv_17, ⟨ma_18, ka_18⟩, ⟨ma_19, ka_19⟩⟩ := un_11 (hG _ mo0) ko0
  have bv_15 : ((-2147483648) ≤ v_15.toInt ∧ v_15.toInt ≤ 2147483647) := ⟨i32_lo _, i32_hi _⟩
  have bv_20 : ((-2147483648) ≤ v_20.toInt ∧ v_20.toInt ≤ 2147483647) := ⟨i32_lo _, i32_hi _⟩
  refine tk_ViP (As := [.int p1]) (rest := []) (n := 1) hx hb hml hown hU hN hZ (s_X11_isSet_k11_u l (dC, dI) cI cL cZ cR cG cH Z kd L f hG o0 mo0 ko0 p1) wd_678 wd_679 wd_680 wd_2 wd_681 (by decide +kernel) ⟨Nat.le_of_ble_eq_true rfl, Nat.le_of_ble_eq_true rfl⟩ hK hP hD hS mo0 hfo_1 11 rfl rfl rfl hl.1 rfl (Nat.le_of_ble_eq_true rfl) dX11_fits_2 ⟨Nat.le_of_ble_eq_true rfl, Nat.le_of_ble_eq_true rfl⟩ (fun x_21 f_22 H locs hw hP hD hS => ?_)
  obtain ⟨rfl, bx_21, relx_21, hxp_23⟩ := hw
  obtain ⟨a_26, v_27, a_28, a_29, a_30, a_31, v_32, a_33, a_34, a_35, a_36, a_37, v_38, a_39, a_40, a_41, hfo_25, ⟨ma_26, ka_26⟩, bv_27, ⟨ma_28, ka_28⟩, ⟨ma_29, ka_29⟩, ⟨ma_30, ka_30⟩, ⟨ma_31, ka_31⟩, bv_32, ⟨ma_33, ka_33⟩, ⟨ma_34, ka_34⟩, ⟨ma_35, ka_35⟩, ⟨ma_36, ka_36⟩, ⟨ma_37, ka_37⟩, bv_38, ⟨ma_39, ka_39⟩, ⟨ma_40, ka_40⟩, ⟨ma_41, ka_41⟩⟩ := un_7 (hG _ ma_5) ka_5
  have hisx_21 := hxp_23 a_5 v_38 (by rw [hfo_1]; rfl) (by rw [hfo_25]; rfl)
  refine lv_if_ne (tgt := 10) hx hb dX11_fits_5 (by decide) (fun c_42 => ?_) (fun c_42 => ?_)
  · skip
    rw [← Int32.toInt_inj, ti_0] at c_42
    refine lv_aload_n hx hb dX11_fits_10 rfl (lv_at hl 0 rfl) ?_
    refine tk_getP (D := (dC, dI)) (ci := 11) (v := .ref a_7) (C := RX11) (T := TX11) (N := 19) hx hb hU inlX11 hown hK hP mo0 hfo_1 rfl 5 (by decide) (hU _ wd_25) (fun _ h9 => h9) rfl dX11_fits_11 ?_
    refine lv_aload_n hx hb dX11_fits_14 rfl (lv_at hl 0 rfl) ?_
    refine tk_getP (D := (dC, dI)) (ci := 11) (v := .ref a_4) (C := RX11) (T := TX11) (N := 19) hx hb hU inlX11 hown hK hP mo0 hfo_1 rfl 2 (by decide) (hU _ wd_17) (fun _ h9 => h9) rfl dX11_fits_15 ?_
    refine lv_aload_n hx hb dX11_fits_18 rfl (lv_at hl 0 rfl) ?_
    refine tk_getP (D := (dC, dI)) (ci := 11) (v := .ref a_5) (C := RX11) (T := TX11) (N := 19) hx hb hU inlX11 hown hK hP mo0 hfo_1 rfl 3 (by decide) (hU _ wd_19) (fun _ h9 => h9) rfl dX11_fits_19 ?_
    refine tk_getP (D := (dC, dI)) (ci := 7) (v := .int v_38) (C := RX7) (T := TX7) (N := 16) hx hb hU inlX7 hown hK hP ma_5 hfo_25 rfl 12 (by decide) (hU _ wd_235) (fun _ h9 => h9) rfl dX11_fits_22 ?_
    obtain ⟨v_44, v_45, a_46, a_47, a_48, v_49, a_50, a_51, a_52, hfo_43, bv_45, ⟨ma_46, ka_46⟩, ⟨ma_47, ka_47⟩, ⟨ma_48, ka_48⟩, ⟨ma_50, ka_50⟩, ⟨ma_51, ka_51⟩, ⟨ma_52, ka_52⟩⟩ := un_6 (hG _ ma_7) ka_7
    have bv_44 : ((-2147483648) ≤ v_44.toInt ∧ v_44.toInt ≤ 2147483647) := ⟨i32_lo _, i32_hi _⟩
    have bv_49 : ((-2147483648) ≤ v_49.toInt ∧ v_49.toInt ≤ 2147483647) := ⟨i32_lo _, i32_hi _⟩
    refine tk_VvP (As := [.ref a_4, .int v_38]) (rest := []) (n := 2) hx hb hml hown hU hN hZ (s_X6_study_k6_k3 l (dC, dI) cI cL cZ cR cG cH Z kd L f hG a_7 ma_7 ka_7 a_4 ma_4 ka_4 v_38 (by constructor <;> omega)) wd_1408 wd_1409 wd_1410 wd_24 wd_1411 (by decide +kernel) ⟨Nat.le_of_ble_eq_true rfl, Nat.le_of_ble_eq_true rfl⟩ hK hP hD hS ma_7 hfo_43 6 rfl rfl rfl hl.1 rfl (Nat.le_of_ble_eq_true rfl) dX11_fits_25 ⟨Nat.le_of_ble_eq_true rfl, Nat.le_of_ble_eq_true rfl⟩ (fun f_54 H locs hw hP hD hS => ?_)
    obtain ⟨hG, hkc_55, hrc_56, hrc_57⟩ := hw
    have hfo_59 : f_54 o0 = .inr (11, [.ref a_2, .int v_3, .ref a_4, .ref a_5, .ref a_6, .ref a_7, .ref a_8, .ref a_9, .int v_10, .ref a_11, .ref a_12, .ref a_13, .int v_14, .int v_15, .ref a_16, .int v_17, .ref a_18, .ref a_19, .int v_20]) := by rw [hkc_55 o0 (by rw [ko0]; decide) (by rw [ko0]; decide) (by rw [ko0]; decide) (by rw [ko0]; decide) (by rw [ko0]; decide) (by rw [ko0]; decide)]; exact hfo_1
    have hfo_60 : f_54 a_5 = .inr (7, [.ref a_26, .int v_27, .ref a_28, .ref a_29, .ref a_30, .ref a_31, .int v_32, .ref a_33, .ref a_34, .ref a_35, .ref a_36, .ref a_37, .int v_38, .ref a_39, .ref a_40, .ref a_41]) := by rw [hkc_55 a_5 (by rw [ka_5]; decide) (by rw [ka_5]; decide) (by rw [ka_5]; decide) (by rw [ka_5]; decide) (by rw [ka_5]; decide) (by rw [ka_5]; decide)]; exact hfo_25
    have hfo_61 : f_54 a_7 = .inr (6, [.int v_44, .int v_45, .ref a_46, .ref a_47, .ref a_48, .int v_49, .ref a_50, .ref a_51, .ref a_52]) := by rw [hkc_55 a_7 (by rw [ka_7]; decide) (by rw [ka_7]; decide) (by rw [ka_7]; decide) (by rw [ka_7]; decide) (by rw [ka_7]; decide) (by rw [ka_7]; decide)]; exact hfo_43
    have hfr0 : ∀ b, kd b ≠ 3 → kd b ≠ 507 → kd b ≠ 525 → kd b ≠ 527 → kd b ≠ 531 → kd b ≠ 532 → f_54 b = f b := fun b q3 q507 q525 q527 q531 q532 => (hkc_55 b q3 q507 q525 q527 q531 q532).trans (hfr0 b q3 q507 q525 q527 q531 q532)
    have hrr3_0 : ∀ b, kd b = 3 → fldR (f_54 b) 0 = fldR (f b) 0 := fun b kb => (hrc_56 b kb).trans (hrr3_0 b kb)
    have hrr3_3 : ∀ b, kd b = 3 → fldR (f_54 b) 3 = fldR (f b) 3 := fun b kb => (hrc_57 b kb).trans (hrr3_3 b kb)
    refine lv_aload_n hx hb dX11_fits_28 rfl (lv_at hl 0 rfl) ?_
    refine tk_getP (D := (dC, dI)) (ci := 11) (v := .ref a_7) (C := RX11) (T := TX11) (N := 19) hx hb hU inlX11 hown hK hP mo0 hfo_59 rfl 5 (by decide) (hU _ wd_25) (fun _ h9 => h9) rfl dX11_fits_29 ?_
    refine lv_iload_n hx hb dX11_fits_32 rfl (lv_at hl 1 rfl) ?_
    refine tk_ViP (As := [.int p1]) (rest := []) (n := 1) hx hb hml hown hU hN hZ (s_X6_firstUntrue_k6 l (dC, dI) cI cL cZ cR cG cH Z kd L f_54 hG a_7 ma_7 ka_7 p1) wd_1416 wd_1417 wd_1418 wd_24 wd_1419 (by decide +kernel) ⟨Nat.le_of_ble_eq_true rfl, Nat.le_of_ble_eq_true rfl⟩ hK hP hD hS ma_7 hfo_61 6 rfl rfl rfl hl.1 rfl (Nat.le_of_ble_eq_true rfl) dX11_fits_33 ⟨Nat.le_of_ble_eq_true rfl, Nat.le_of_ble_eq_true rfl⟩ (fun x_62 f_63 H locs hw hP hD hS => ?_)
    obtain ⟨rfl, bx_62⟩ := hw
    refine lv_iconst (v := (-1)) hx hb dX11_fits_36 (by decide) ?_
    refine lv_icmp_ne (tgt := 44) hx hb dX11_fits_37 (by decide) (fun c_65 => ?_) (fun c_65 => ?_)
    · skip
      rw [← Int32.toInt_inj, ti_m1] at c_65
      refine lv_iconst (v := 0) hx hb dX11_fits_44 (by decide) ?_
      exact W.iret (v := 0) hx hb hr (fun t ht hW => ⟨⟨0, f_54, rfl, ⟨hG, (by decide), hfr0, hrr3_0, hrr3_3⟩, by rw [ht]; exact hP, va_K.moved hW.alike hK, pl_in hD⟩, hS.F ht⟩) hS.2.2 dX11_fits_45
    · skip
      rw [← Int32.toInt_inj, ti_m1] at c_65
      refine lv_iconst (v := 1) hx hb dX11_fits_40 (by decide) ?_
      refine lv_goto (tgt := 45) hx hb dX11_fits_41 (by decide) ?_
      exact W.iret (v := 1) hx hb hr (fun t ht hW => ⟨⟨1, f_54, rfl, ⟨hG, (by decide), hfr0, hrr3_0, hrr3_3⟩, by rw [ht]; exact hP, va_K.moved hW.alike hK, pl_in hD⟩, hS.F ht⟩) hS.2.2 dX11_fits_45
  · skip
    rw [← Int32.toInt_inj, ti_0] at c_42
    refine lv_iconst (v := (-1)) hx hb dX11_fits_8 (by decide) ?_
    exact W.iret (v := (-1)) hx hb hr (fun t ht hW => ⟨⟨(-1), f, rfl, ⟨hG, (by decide), hfr0, hrr3_0, hrr3_3⟩, by rw [ht]; exact hP, va_K.moved hW.alike hK, pl_in hD⟩, hS.F ht⟩) hS.2.2 dX11_fits_9
