set_option maxHeartbeats 8000000 in
set_option maxRecDepth 100000 in
theorem s_X11_takeWord_k11 (l : Launch) (D : va_G) (cI cL cZ cR cG cH : ClassId) (Z : zT) (kd : Nat → Nat) (L : List Nat) (f : Nat → va_E) (hG : GI (okc cI cL cZ cR cG cH L kd) kd L f) (o0 : Nat) (mo0 : o0 ∈ L) (ko0 : kd o0 = 11) (hxtr0 : ∀ d9, fldR (f o0) 3 = some d9 → trel kd 7 508 510 515 4 f d9) : mPI l D cI cL cZ cR cG cH Z yX11_takeWord cX11_takeWord 3 (some .int) 2 44 [.ref o0] L f (fun (r : Int32) (f9 : Nat → va_E) => GI (okc cI cL cZ cR cG cH L kd) kd L f9 ∧ ((-1) ≤ r.toInt ∧ r.toInt ≤ 8) ∧ (∀ b, kd b ≠ 11 → kd b ≠ 540 → f9 b = f b) ∧ (∀ b, kd b = 11 → fldI (f9 b) 8 = fldI (f b) 8) ∧ (∀ b, kd b = 11 → fldR (f9 b) 2 = fldR (f b) 2) ∧ (∀ b, kd b = 11 → fldR (f9 b) 3 = fldR (f b) 3) ∧ (∀ b, kd b = 11 → fldR (f9 b) 5 = fldR (f b) 5) ∧ (∀ b, kd b = 11 → fldR (f9 b) 6 = fldR (f b) 6) ∧ (∀ b, kd b = 11 → fldR (f9 b) 7 = fldR (f b) 7) ∧ (∀ b, kd b = 11 → fldR (f9 b) 9 = fldR (f b) 9) ∧ (∀ b, kd b = 11 → fldR (f9 b) 10 = fldR (f b) 10) ∧ (∀ b, kd b = 11 → fldR (f9 b) 16 = fldR (f b) 16) ∧ (∀ (w1 z1 : Int32) (w12 z12 : Int32), fldI (f o0) 1 = some w1 → fldI (f o0) 12 = some w12 → fldI (f9 o0) 1 = some z1 → fldI (f9 o0) 12 = some z12 → z1.toInt = 0 ∧ z12.toInt = w12.toInt) ∧ (∀ b9 g9 d9 n9, fldR (f9 o0) 16 = some b9 → f9 b9 = .inl (cI, 16, .inl g9) → fldR (f9 o0) 3 = some d9 → fldI (f9 d9) 1 = some n9 → ∀ j : Nat, (j : Int) < r.toInt → 1 ≤ (g9 j).toInt ∧ (g9 j).toInt ≤ 8 ∧ (g9 j).toInt ≤ n9.toInt) ∧ (∀ d9, fldR (f9 o0) 3 = some d9 → trel kd 7 508 510 515 4 f9 d9)) := by
  obtain ⟨dC, dI⟩ := D
  refine Met.ofW (cc := cX11_takeWord) (maxL := 3) (ret := (some .int)) (by decide) rfl ?_
  intro p e s m args below meth c s₁ B hml hv
  obtain ⟨rfl, hP, hK, hD0, hN, hZ⟩ := hv
  have hx := B.exec
  have hb := B.bytes
  have hr := B.returns
  have hU : ∀ w ∈ wsU, w.before _ s = true := fun w h => atoms_spec (ws := wU yX11_takeWord cX11_takeWord 3 (some .int)) B.pre w (List.mem_cons_of_mem _ h)
  have hown : s.vm.findClass RX11 = some m.cls := findClass_of_methodNamed B.named
  have hlocks := B.notSynchronized
  have hD := pl_in hD0
  have hS : va_S (fun q => q ∈ L) s.heap s.heap [] := va_S.rf
  have hl := lv_entry ([.ref o0]) (n := 3) (Nat.le_of_ble_eq_true rfl)
  rw [lg_entry_eq]
  generalize (lg_sl ([.ref o0]) ++ List.replicate (3 - (lg_sl ([.ref o0])).length) Slot.unset).toArray = ls at hl ⊢
  have hl : lv_has ls 3 [(0, .ref o0)] := hl
  have hfr0 : ∀ b, kd b ≠ 11 → kd b ≠ 540 → f b = f b := fun _ _ _ => rfl
  have hfr11_8 : ∀ b, kd b = 11 → fldI (f b) 8 = fldI (f b) 8 := fun _ _ => rfl
  have hrr11_2 : ∀ b, kd b = 11 → fldR (f b) 2 = fldR (f b) 2 := fun _ _ => rfl
  have hrr11_3 : ∀ b, kd b = 11 → fldR (f b) 3 = fldR (f b) 3 := fun _ _ => rfl
  have hrr11_5 : ∀ b, kd b = 11 → fldR (f b) 5 = fldR (f b) 5 := fun _ _ => rfl
  have hrr11_6 : ∀ b, kd b = 11 → fldR (f b) 6 = fldR (f b) 6 := fun _ _ => rfl
  have hrr11_7 : ∀ b, kd b = 11 → fldR (f b) 7 = fldR (f b) 7 := fun _ _ => rfl
  have hrr11_9 : ∀ b, kd b = 11 → fldR (f b) 9 = fldR (f b) 9 := fun _ _ => rfl
  have hrr11_10 : ∀ b, kd b = 11 → fldR (f b) 10 = fldR (f b) 10 := fun _ _ => rfl
  have hrr11_16 : ∀ b, kd b = 11 → fldR (f b) 16 = fldR (f b) 16 := fun _ _ => rfl
  obtain ⟨a_2, v_3, a_4, a_5, a_6, a_7, a_8, a_9, v_10, a_11, a_12, a_13, v_14, v_15, a_16, v_17, a_18, a_19, v_20, hfo_1, ⟨ma_2, ka_2⟩, bv_3, ⟨ma_4, ka_4⟩, ⟨ma_5, ka_5⟩, ⟨ma_6, ka_6⟩, ⟨ma_7, ka_7⟩, ⟨ma_8, ka_8⟩, ⟨ma_9, ka_9⟩, bv_10, ⟨ma_11, ka_11⟩, ⟨ma_12, ka_12⟩, ⟨ma_13, ka_13⟩, bv_14, ⟨ma_16, ka_16⟩, bv_17, ⟨ma_18, ka_18⟩, ⟨ma_19, ka_19⟩⟩ := un_11 (hG _ mo0) ko0
  have bv_15 : ((-2147483648) ≤ v_15.toInt ∧ v_15.toInt ≤ 2147483647) := ⟨i32_lo _, i32_hi _⟩
  have bv_20 : ((-2147483648) ≤ v_20.toInt ∧ v_20.toInt ≤ 2147483647) := ⟨i32_lo _, i32_hi _⟩
  have hT0 := hxtr0 a_5 (by rw [hfo_1]; rfl)
  obtain ⟨a_22, v_23, a_24, a_25, a_26, a_27, v_28, a_29, a_30, a_31, a_32, a_33, v_34, a_35, a_36, a_37, hfo_21, ⟨ma_22, ka_22⟩, bv_23, ⟨ma_24, ka_24⟩, ⟨ma_25, ka_25⟩, ⟨ma_26, ka_26⟩, ⟨ma_27, ka_27⟩, bv_28, ⟨ma_29, ka_29⟩, ⟨ma_30, ka_30⟩, ⟨ma_31, ka_31⟩, ⟨ma_32, ka_32⟩, ⟨ma_33, ka_33⟩, bv_34, ⟨ma_35, ka_35⟩, ⟨ma_36, ka_36⟩, ⟨ma_37, ka_37⟩⟩ := un_7 (hG _ ma_5) ka_5
  obtain ⟨g_39, hfo_38, hbg_39⟩ := un_508 (hG _ ma_22) ka_22
  obtain ⟨g_41, hfo_40, hbg_41⟩ := un_533 (hG _ ma_2) ka_2
  refine lv_aload_n hx hb dX11_takeWord_0 rfl (lv_at hl 0 rfl) ?_
  refine tk_ViP (As := []) (rest := []) (n := 0) hx hb hml hown hU hN hZ (s_X11_emptyTape_k11_e l (dC, dI) cI cL cZ cR cG cH Z kd L f hG o0 mo0 ko0) wd_239 wd_240 wd_241 wd_2 wd_242 (by decide +kernel) ⟨Nat.le_of_ble_eq_true rfl, Nat.le_of_ble_eq_true rfl⟩ hK hP hD hS mo0 hfo_1 11 rfl rfl rfl hl.1 rfl (Nat.le_of_ble_eq_true rfl) dX11_takeWord_1 ⟨Nat.le_of_ble_eq_true rfl, Nat.le_of_ble_eq_true rfl⟩ (fun x_42 f_43 H locs hw hP hD hS => ?_)
  obtain ⟨hG, bx_42, hkc_44, hfc_45, hrc_46, hrc_47, hrc_48, hrc_49, hrc_50, hrc_51, hrc_52, hrc_53, hpost_54⟩ := hw
  have hfo_56 : f_43 a_5 = .inr (7, [.ref a_22, .int v_23, .ref a_24, .ref a_25, .ref a_26, .ref a_27, .int v_28, .ref a_29, .ref a_30, .ref a_31, .ref a_32, .ref a_33, .int v_34, .ref a_35, .ref a_36, .ref a_37]) := by rw [hkc_44 a_5 (by rw [ka_5]; decide)]; exact hfo_21
  have hfo_57 : f_43 a_22 = .inl (cI, 26, .inl g_39) := by rw [hkc_44 a_22 (by rw [ka_22]; decide)]; exact hfo_38
  have hfo_58 : f_43 a_2 = .inl (cI, 600, .inl g_41) := by rw [hkc_44 a_2 (by rw [ka_2]; decide)]; exact hfo_40
  have hfr0 : ∀ b, kd b ≠ 11 → kd b ≠ 540 → f_43 b = f b := fun b q11 q540 => (hkc_44 b q11).trans (hfr0 b q11 q540)
  have hfr11_8 : ∀ b, kd b = 11 → fldI (f_43 b) 8 = fldI (f b) 8 := fun b kb => (hfc_45 b kb).trans (hfr11_8 b kb)
  have hrr11_2 : ∀ b, kd b = 11 → fldR (f_43 b) 2 = fldR (f b) 2 := fun b kb => (hrc_46 b kb).trans (hrr11_2 b kb)
  have hrr11_3 : ∀ b, kd b = 11 → fldR (f_43 b) 3 = fldR (f b) 3 := fun b kb => (hrc_47 b kb).trans (hrr11_3 b kb)
  have hrr11_5 : ∀ b, kd b = 11 → fldR (f_43 b) 5 = fldR (f b) 5 := fun b kb => (hrc_48 b kb).trans (hrr11_5 b kb)
  have hrr11_6 : ∀ b, kd b = 11 → fldR (f_43 b) 6 = fldR (f b) 6 := fun b kb => (hrc_49 b kb).trans (hrr11_6 b kb)
  have hrr11_7 : ∀ b, kd b = 11 → fldR (f_43 b) 7 = fldR (f b) 7 := fun b kb => (hrc_50 b kb).trans (hrr11_7 b kb)
  have hrr11_9 : ∀ b, kd b = 11 → fldR (f_43 b) 9 = fldR (f b) 9 := fun b kb => (hrc_51 b kb).trans (hrr11_9 b kb)
  have hrr11_10 : ∀ b, kd b = 11 → fldR (f_43 b) 10 = fldR (f b) 10 := fun b kb => (hrc_52 b kb).trans (hrr11_10 b kb)
  have hrr11_16 : ∀ b, kd b = 11 → fldR (f_43 b) 16 = fldR (f b) 16 := fun b kb => (hrc_53 b kb).trans (hrr11_16 b kb)
  have hT0 : trel kd 7 508 510 515 4 f_43 a_5 := hT0.keep (fun b q => hkc_44 b (by rw [q]; decide)) (fun b q => hkc_44 b (by rw [q]; decide)) (fun b q => hkc_44 b (by rw [q]; decide)) (fun b q => hkc_44 b (by rw [q]; decide)) (fun b q => congrArg (fun x => fldI x 1) (hkc_44 b (by rw [q]; decide)))
  obtain ⟨a_60, v_61, a_62, a_63, a_64, a_65, a_66, a_67, v_68, a_69, a_70, a_71, v_72, v_73, a_74, v_75, a_76, a_77, v_78, hfo_59, ⟨ma_60, ka_60⟩, bv_61, ⟨ma_62, ka_62⟩, ⟨ma_63, ka_63⟩, ⟨ma_64, ka_64⟩, ⟨ma_65, ka_65⟩, ⟨ma_66, ka_66⟩, ⟨ma_67, ka_67⟩, bv_68, ⟨ma_69, ka_69⟩, ⟨ma_70, ka_70⟩, ⟨ma_71, ka_71⟩, bv_72, ⟨ma_74, ka_74⟩, bv_75, ⟨ma_76, ka_76⟩, ⟨ma_77, ka_77⟩⟩ := un_11 (hG _ mo0) ko0
  have bv_73 : ((-2147483648) ≤ v_73.toInt ∧ v_73.toInt ≤ 2147483647) := ⟨i32_lo _, i32_hi _⟩
  have bv_78 : ((-2147483648) ≤ v_78.toInt ∧ v_78.toInt ≤ 2147483647) := ⟨i32_lo _, i32_hi _⟩
  obtain rfl : a_4 = a_62 := by have hk9 := hrr11_2 o0 ko0; rw [hfo_59, hfo_1] at hk9; exact (Option.some.inj hk9).symm
  obtain rfl : a_5 = a_63 := by have hk9 := hrr11_3 o0 ko0; rw [hfo_59, hfo_1] at hk9; exact (Option.some.inj hk9).symm
  obtain rfl : a_7 = a_65 := by have hk9 := hrr11_5 o0 ko0; rw [hfo_59, hfo_1] at hk9; exact (Option.some.inj hk9).symm
  obtain rfl : a_8 = a_66 := by have hk9 := hrr11_6 o0 ko0; rw [hfo_59, hfo_1] at hk9; exact (Option.some.inj hk9).symm
  obtain rfl : a_9 = a_67 := by have hk9 := hrr11_7 o0 ko0; rw [hfo_59, hfo_1] at hk9; exact (Option.some.inj hk9).symm
  obtain rfl : a_11 = a_69 := by have hk9 := hrr11_9 o0 ko0; rw [hfo_59, hfo_1] at hk9; exact (Option.some.inj hk9).symm
  obtain rfl : a_12 = a_70 := by have hk9 := hrr11_10 o0 ko0; rw [hfo_59, hfo_1] at hk9; exact (Option.some.inj hk9).symm
  obtain rfl : a_18 = a_76 := by have hk9 := hrr11_16 o0 ko0; rw [hfo_59, hfo_1] at hk9; exact (Option.some.inj hk9).symm
  obtain rfl : v_10 = v_68 := by have hk9 := hfc_45 o0 ko0; rw [hfo_59, hfo_1] at hk9; exact (Option.some.inj hk9).symm
  have hqhpost_54 := hpost_54 v_3 v_61 v_14 v_72 (by rw [hfo_1]; rfl) (by rw [hfo_1]; rfl) (by rw [hfo_59]; rfl) (by rw [hfo_59]; rfl)
  refine lv_istore_n (lv' := [(1, .int x_42), (0, .ref o0)]) hx hb dX11_takeWord_4 rfl hl (by decide) rfl (fun ls hl => ?_)
  refine lv_iload_n hx hb dX11_takeWord_5 rfl (lv_at hl 0 rfl) ?_
  refine lv_iconst (v := 1) hx hb dX11_takeWord_6 (by decide) ?_
  refine lv_icmp_lt (tgt := 25) hx hb dX11_takeWord_7 (by decide) (fun c_79 => ?_) (fun c_79 => ?_)
  · skip
    rw [Int32.lt_iff_toInt_lt, ti_1] at c_79
    refine lv_iconst (v := (-1)) hx hb dX11_takeWord_25 (by decide) ?_
    exact W.iret (v := (-1)) hx hb hr (fun t ht hW => ⟨⟨(-1), f_43, rfl, ⟨hG, (by decide), hfr0, hfr11_8, hrr11_2, hrr11_3, hrr11_5, hrr11_6, hrr11_7, hrr11_9, hrr11_10, hrr11_16, (by intro w1 z1 w12 z12 e1 e12 d1 d12; rw [hfo_1] at e1 e12; rw [hfo_59] at d1 d12; obtain rfl := Option.some.inj e1; obtain rfl := Option.some.inj d1; obtain rfl := Option.some.inj e12; obtain rfl := Option.some.inj d12; (try rw [ti_m1]) <;> omega), (fun _ _ _ _ _ _ _ _ j hj => by exfalso; have h3 : ((-1 : Int32)).toInt = -1 := (by decide); omega), (fun d9 h9 => by rw [hfo_59] at h9; obtain rfl := Option.some.inj h9; exact hT0)⟩, by rw [ht]; exact hP, va_K.moved hW.alike hK, pl_in hD⟩, hS.F ht⟩) hS.2.2 dX11_takeWord_26
  · skip
    rw [Int32.lt_iff_toInt_lt, ti_1] at c_79
    refine lv_iload_n hx hb dX11_takeWord_10 rfl (lv_at hl 0 rfl) ?_
    refine lv_bipush (v := 8) hx hb dX11_takeWord_11 (by decide) ?_
    refine lv_icmp_gt (tgt := 25) hx hb dX11_takeWord_13 (by decide) (fun c_80 => ?_) (fun c_80 => ?_)
    · skip
      rw [Int32.lt_iff_toInt_lt, ti_8] at c_80
      refine lv_iconst (v := (-1)) hx hb dX11_takeWord_25 (by decide) ?_
      exact W.iret (v := (-1)) hx hb hr (fun t ht hW => ⟨⟨(-1), f_43, rfl, ⟨hG, (by decide), hfr0, hfr11_8, hrr11_2, hrr11_3, hrr11_5, hrr11_6, hrr11_7, hrr11_9, hrr11_10, hrr11_16, (by intro w1 z1 w12 z12 e1 e12 d1 d12; rw [hfo_1] at e1 e12; rw [hfo_59] at d1 d12; obtain rfl := Option.some.inj e1; obtain rfl := Option.some.inj d1; obtain rfl := Option.some.inj e12; obtain rfl := Option.some.inj d12; (try rw [ti_m1]) <;> omega), (fun _ _ _ _ _ _ _ _ j hj => by exfalso; have h3 : ((-1 : Int32)).toInt = -1 := (by decide); omega), (fun d9 h9 => by rw [hfo_59] at h9; obtain rfl := Option.some.inj h9; exact hT0)⟩, by rw [ht]; exact hP, va_K.moved hW.alike hK, pl_in hD⟩, hS.F ht⟩) hS.2.2 dX11_takeWord_26
    · skip
      rw [Int32.lt_iff_toInt_lt, ti_8] at c_80
      refine lv_aload_n hx hb dX11_takeWord_16 rfl (lv_at hl 1 rfl) ?_
      refine lv_iconst (v := 0) hx hb dX11_takeWord_17 (by decide) ?_
      refine lv_iload_n hx hb dX11_takeWord_18 rfl (lv_at hl 0 rfl) ?_
      refine tk_ViP (As := [.int 0, .int x_42]) (rest := []) (n := 2) hx hb hml hown hU hN hZ (s_X11_areLetters_k11_g l (dC, dI) cI cL cZ cR cG cH Z kd L f_43 hG o0 mo0 ko0 0 (by decide) x_42 (by constructor <;> omega) (fun d9 h9 => by rw [hfo_59] at h9; obtain rfl := Option.some.inj h9; exact hT0)) wd_713 wd_714 wd_715 wd_2 wd_716 (by decide +kernel) ⟨Nat.le_of_ble_eq_true rfl, Nat.le_of_ble_eq_true rfl⟩ hK hP hD hS mo0 hfo_59 11 rfl rfl rfl hl.1 rfl (Nat.le_of_ble_eq_true rfl) dX11_takeWord_19 ⟨Nat.le_of_ble_eq_true rfl, Nat.le_of_ble_eq_true rfl⟩ (fun x_81 f_82 H locs hw hP hD hS => ?_)
      obtain ⟨rfl, bx_81, hxp_83⟩ := hw
      obtain ⟨g_86, hfo_85, hbg_86⟩ := un_533 (hG _ ma_60) ka_60
      have halx_81 := hxp_83 a_5 a_22 g_39 a_60 g_86 (by rw [hfo_59]; rfl) (by rw [hfo_56]; rfl) hfo_57 (by rw [hfo_59]; rfl) hfo_85
      refine lv_if_ne (tgt := 27) hx hb dX11_takeWord_22 (by decide) (fun c_87 => ?_) (fun c_87 => ?_)
      · skip
        rw [← Int32.toInt_inj, ti_0] at c_87
        refine lv_iconst (v := 0) hx hb dX11_takeWord_27 (by decide) ?_
        refine lv_istore_n (lv' := [(2, .int 0), (1, .int x_42), (0, .ref o0)]) hx hb dX11_takeWord_28 rfl hl (by decide) rfl (fun ls hl => ?_)
        have hloop_115 : ∀ (n : Nat), ∀ (y_116 : Int32), (0 ≤ y_116.toInt ∧ y_116.toInt ≤ 8) → ∀ (f_118 : Nat → va_E), GI (okc cI cL cZ cR cG cH L kd) kd L f_118 → ∀ (H : Heap) (locs : List Loc), va_P (dC, dI) vwCl (va_pl L f_118) H → va_S (fun q => q ∈ L) s.heap H locs → va_D (fun q => q ∈ L) (va_pl L f_118) → (∀ b, kd b ≠ 11 → kd b ≠ 540 → f_118 b = f b) → (∀ b, kd b = 11 → fldI (f_118 b) 8 = fldI (f b) 8) → (∀ b, kd b = 11 → fldR (f_118 b) 2 = fldR (f b) 2) → (∀ b, kd b = 11 → fldR (f_118 b) 3 = fldR (f b) 3) → (∀ b, kd b = 11 → fldR (f_118 b) 5 = fldR (f b) 5) → (∀ b, kd b = 11 → fldR (f_118 b) 6 = fldR (f b) 6) → (∀ b, kd b = 11 → fldR (f_118 b) 7 = fldR (f b) 7) → (∀ b, kd b = 11 → fldR (f_118 b) 9 = fldR (f b) 9) → (∀ b, kd b = 11 → fldR (f_118 b) 10 = fldR (f b) 10) → (∀ b, kd b = 11 → fldR (f_118 b) 16 = fldR (f b) 16) → (f_118 a_5 = .inr (7, [.ref a_22, .int v_23, .ref a_24, .ref a_25, .ref a_26, .ref a_27, .int v_28, .ref a_29, .ref a_30, .ref a_31, .ref a_32, .ref a_33, .int v_34, .ref a_35, .ref a_36, .ref a_37])) → (f_118 a_22 = .inl (cI, 26, .inl g_39)) → (f_118 a_2 = .inl (cI, 600, .inl g_41)) → (f_118 o0 = .inr (11, [.ref a_60, .int v_61, .ref a_4, .ref a_5, .ref a_64, .ref a_7, .ref a_8, .ref a_9, .int v_10, .ref a_11, .ref a_12, .ref a_71, .int v_72, .int v_73, .ref a_74, .int v_75, .ref a_18, .ref a_77, .int v_78])) → (f_118 a_60 = .inl (cI, 600, .inl g_86)) → trel kd 7 508 510 515 4 f_118 a_5 → (∀ g9, f_118 a_18 = .inl (cI, 16, .inl g9) → ∀ j : Nat, (j : Int) < y_116.toInt → 1 ≤ (g9 j).toInt ∧ (g9 j).toInt ≤ 8 ∧ (g9 j).toInt ≤ v_23.toInt) → 8 - y_116.toInt < (n : Int) → ∀ (ls : Array Slot), lv_has ls 3 [(2, .int y_116), (1, .int x_42), (0, .ref o0)] → W p l e (headSpec (wU yX11_takeWord cX11_takeWord 3 (some .int)) { frames := 2, cells := 0, slots := 0, locals := 44 }).room s m [.ref o0].toArray below meth c H locs 0 0 (MQ below (va_Qi (fun (r : Int32) (f9 : Nat → va_E) => GI (okc cI cL cZ cR cG cH L kd) kd L f9 ∧ ((-1) ≤ r.toInt ∧ r.toInt ≤ 8) ∧ (∀ b, kd b ≠ 11 → kd b ≠ 540 → f9 b = f b) ∧ (∀ b, kd b = 11 → fldI (f9 b) 8 = fldI (f b) 8) ∧ (∀ b, kd b = 11 → fldR (f9 b) 2 = fldR (f b) 2) ∧ (∀ b, kd b = 11 → fldR (f9 b) 3 = fldR (f b) 3) ∧ (∀ b, kd b = 11 → fldR (f9 b) 5 = fldR (f b) 5) ∧ (∀ b, kd b = 11 → fldR (f9 b) 6 = fldR (f b) 6) ∧ (∀ b, kd b = 11 → fldR (f9 b) 7 = fldR (f b) 7) ∧ (∀ b, kd b = 11 → fldR (f9 b) 9 = fldR (f b) 9) ∧ (∀ b, kd b = 11 → fldR (f9 b) 10 = fldR (f b) 10) ∧ (∀ b, kd b = 11 → fldR (f9 b) 16 = fldR (f b) 16) ∧ (∀ (w1 z1 : Int32) (w12 z12 : Int32), fldI (f o0) 1 = some w1 → fldI (f o0) 12 = some w12 → fldI (f9 o0) 1 = some z1 → fldI (f9 o0) 12 = some z12 → z1.toInt = 0 ∧ z12.toInt = w12.toInt) ∧ (∀ b9 g9 d9 n9, fldR (f9 o0) 16 = some b9 → f9 b9 = .inl (cI, 16, .inl g9) → fldR (f9 o0) 3 = some d9 → fldI (f9 d9) 1 = some n9 → ∀ j : Nat, (j : Int) < r.toInt → 1 ≤ (g9 j).toInt ∧ (g9 j).toInt ≤ 8 ∧ (g9 j).toInt ≤ n9.toInt) ∧ (∀ d9, fldR (f9 o0) 3 = some d9 → trel kd 7 508 510 515 4 f9 d9)) (qP (dC, dI) cI cL cZ cR cG cH L) (fun q => q ∈ L)) [.ref o0].toArray s 0 0 (fun q => q ∈ L)) (F0 m 29 ls []) := by
          intro n
          induction n with
          | zero => intro y_116 by_116 f_118 hG H locs hP hS hD hfr0 hfr11_8 hrr11_2 hrr11_3 hrr11_5 hrr11_6 hrr11_7 hrr11_9 hrr11_10 hrr11_16 hfo_119 hfo_120 hfo_121 hfo_122 hfo_123 hT0 hxt hmuhloop_115 ls hl; exfalso; omega
          | succ n ih_hloop_115 =>
            intro y_116 by_116 f_118 hG H locs hP hS hD hfr0 hfr11_8 hrr11_2 hrr11_3 hrr11_5 hrr11_6 hrr11_7 hrr11_9 hrr11_10 hrr11_16 hfo_119 hfo_120 hfo_121 hfo_122 hfo_123 hT0 hxt hmuhloop_115 ls hl
            refine lv_iload_n hx hb dX11_takeWord_29 rfl (lv_at hl 0 rfl) ?_
            refine lv_iload_n hx hb dX11_takeWord_30 rfl (lv_at hl 1 rfl) ?_
            refine lv_icmp_ge (tgt := 59) hx hb dX11_takeWord_31 (by decide) (fun c_124 => ?_) (fun c_124 => ?_)
            · skip
              rw [Int32.le_iff_toInt_le] at c_124
              refine lv_iload_n hx hb dX11_takeWord_59 rfl (lv_at hl 1 rfl) ?_
              exact W.iret (v := x_42) hx hb hr (fun t ht hW => ⟨⟨x_42, f_118, rfl, ⟨hG, (by constructor <;> omega), hfr0, hfr11_8, hrr11_2, hrr11_3, hrr11_5, hrr11_6, hrr11_7, hrr11_9, hrr11_10, hrr11_16, (by intro w1 z1 w12 z12 e1 e12 d1 d12; rw [hfo_1] at e1 e12; rw [hfo_122] at d1 d12; obtain rfl := Option.some.inj e1; obtain rfl := Option.some.inj d1; obtain rfl := Option.some.inj e12; obtain rfl := Option.some.inj d12; omega), (fun b9 g9 d9 n9 h1 h2 h3 h4 => by rw [hfo_122] at h1 h3; obtain rfl := Option.some.inj h1; obtain rfl := Option.some.inj h3; rw [hfo_119] at h4; obtain rfl := Option.some.inj h4; exact fun j hj => hxt g9 h2 j (by omega)), (fun d9 h9 => by rw [hfo_122] at h9; obtain rfl := Option.some.inj h9; exact hT0)⟩, by rw [ht]; exact hP, va_K.moved hW.alike hK, pl_in hD⟩, hS.F ht⟩) hS.2.2 dX11_takeWord_60
            · skip
              rw [Int32.le_iff_toInt_le] at c_124
              refine lv_aload_n hx hb dX11_takeWord_34 rfl (lv_at hl 2 rfl) ?_
              refine tk_getP (D := (dC, dI)) (ci := 11) (v := .ref a_18) (C := RX11) (T := TX11) (N := 19) hx hb hU inlX11 hown hK hP mo0 hfo_122 rfl 16 (by decide) (hU _ wd_42) (fun _ h9 => h9) rfl dX11_takeWord_35 ?_
              refine lv_iload_n hx hb dX11_takeWord_38 rfl (lv_at hl 0 rfl) ?_
              refine lv_aload_n hx hb dX11_takeWord_39 rfl (lv_at hl 2 rfl) ?_
              refine tk_getP (D := (dC, dI)) (ci := 11) (v := .ref a_5) (C := RX11) (T := TX11) (N := 19) hx hb hU inlX11 hown hK hP mo0 hfo_122 rfl 3 (by decide) (hU _ wd_19) (fun _ h9 => h9) rfl dX11_takeWord_40 ?_
              refine lv_aload_n hx hb dX11_takeWord_43 rfl (lv_at hl 2 rfl) ?_
              refine tk_getP (D := (dC, dI)) (ci := 11) (v := .ref a_60) (C := RX11) (T := TX11) (N := 19) hx hb hU inlX11 hown hK hP mo0 hfo_122 rfl 0 (by decide) (hU _ wd_13) (fun _ h9 => h9) rfl dX11_takeWord_44 ?_
              refine lv_iload_n hx hb dX11_takeWord_47 rfl (lv_at hl 0 rfl) ?_
              refine tk_ildP hx hb hK hP 0 ma_60 hfo_123 rfl (vp_in_iff.mpr (by constructor <;> omega)) dX11_takeWord_48 ?_
              refine lv_topi (fun x_125 ex_125 => ?_)
              have bx_125 : ((-2147483648) ≤ x_125.toInt ∧ x_125.toInt ≤ 2147483647) := ⟨i32_lo _, i32_hi _⟩
              refine tk_ViP (As := [.int x_125]) (rest := [.int y_116, .ref a_18]) (n := 1) hx hb hml hown hU hN hZ (s_X7_signOf_k7_g l (dC, dI) cI cL cZ cR cG cH Z kd L f_118 hG a_5 ma_5 ka_5 x_125 hT0) wd_717 wd_346 wd_347 wd_28 wd_348 (by decide +kernel) ⟨Nat.le_of_ble_eq_true rfl, Nat.le_of_ble_eq_true rfl⟩ hK hP hD hS ma_5 hfo_119 7 rfl rfl rfl hl.1 rfl (Nat.le_of_ble_eq_true rfl) dX11_takeWord_49 ⟨Nat.le_of_ble_eq_true rfl, Nat.le_of_ble_eq_true rfl⟩ (fun x_126 f_127 H locs hw hP hD hS => ?_)
              obtain ⟨rfl, bx_126, hxp_128, hxp_129⟩ := hw
              have hsox_126 := hxp_128 v_23 (by rw [hfo_119]; rfl)
              have hsgx_126 := hxp_129 a_22 g_39 (by rw [hfo_119]; rfl) hfo_120
              obtain ⟨g_132, hfo_131, hbg_132⟩ := un_540 (hG _ ma_18) ka_18
              have hgex_126 : 1 ≤ x_126.toInt := by have hc9 := cl_I (i := y_116) (by omega); have h7 := (halx_81.resolve_left (by omega)) (Int32.toNatClampNeg y_116) (by have h3 : ((0 : Int32)).toInt = 0 := rfl; omega) (by omega); rw [← ex_125, ← hsgx_126] at h7; have h8 : x_126.toInt ≠ 0 := fun q => h7 (Int32.toInt_inj.mp (by rw [q]; rfl)); omega
              refine tk_istP hx hb hK hP hD hS 0 ma_18 hfo_131 rfl (vp_in_iff.mpr (by constructor <;> omega)) dX11_takeWord_52 (fun H locs hP hD hS => ?_)
              obtain ⟨g_133, eqg_133⟩ : ∃ y : Nat → Int32, y = upd g_132 (Int32.toNatClampNeg y_116) x_126 := ⟨_, rfl⟩
              rw [← eqg_133] at hP hD
              have hbg_133 : ∀ j, 0 ≤ (g_133 j).toInt ∧ (g_133 j).toInt ≤ 19 := by rw [eqg_133]; exact okI_up hbg_132 (by constructor <;> omega) _
              obtain ⟨f_135, ef_135⟩ : ∃ y : Nat → va_E, y = va_up f_118 a_18 (.inl (cI, 16, .inl g_133)) := ⟨_, rfl⟩
              have hP : va_P (dC, dI) vwCl (va_pl L f_135) H := by rw [ef_135]; exact hP
              have hD : va_D (fun q => q ∈ L) (va_pl L f_135) := by rw [ef_135]; exact hD
              have hG : GI (okc cI cL cZ cR cG cH L kd) kd L f_135 := by rw [ef_135]; exact hG.set a_18 (mk_540 ka_18 ⟨_, rfl, hbg_133⟩)
              have hfo_136 : f_135 a_5 = .inr (7, [.ref a_22, .int v_23, .ref a_24, .ref a_25, .ref a_26, .ref a_27, .int v_28, .ref a_29, .ref a_30, .ref a_31, .ref a_32, .ref a_33, .int v_34, .ref a_35, .ref a_36, .ref a_37]) := by rw [ef_135, up_ne (kd_ne ka_18 ka_5 (by decide))]; exact hfo_119
              have hfo_137 : f_135 a_22 = .inl (cI, 26, .inl g_39) := by rw [ef_135, up_ne (kd_ne ka_18 ka_22 (by decide))]; exact hfo_120
              have hfo_138 : f_135 a_2 = .inl (cI, 600, .inl g_41) := by rw [ef_135, up_ne (kd_ne ka_18 ka_2 (by decide))]; exact hfo_121
              have hfo_139 : f_135 o0 = .inr (11, [.ref a_60, .int v_61, .ref a_4, .ref a_5, .ref a_64, .ref a_7, .ref a_8, .ref a_9, .int v_10, .ref a_11, .ref a_12, .ref a_71, .int v_72, .int v_73, .ref a_74, .int v_75, .ref a_18, .ref a_77, .int v_78]) := by rw [ef_135, up_ne (kd_ne ka_18 ko0 (by decide))]; exact hfo_122
              have hfo_140 : f_135 a_60 = .inl (cI, 600, .inl g_86) := by rw [ef_135, up_ne (kd_ne ka_18 ka_60 (by decide))]; exact hfo_123
              have hfr0 : ∀ b, kd b ≠ 11 → kd b ≠ 540 → f_135 b = f b := fun b q11 q540 => (congrFun ef_135 b).trans ((up_ne (fun e9 => q540 (by rw [e9]; exact ka_18))).trans (hfr0 b q11 q540))
              have hfr11_8 : ∀ b, kd b = 11 → fldI (f_135 b) 8 = fldI (f b) 8 := fun b kb => (congrArg (fun x => fldI x 8) ((congrFun ef_135 b).trans (up_ne (kd_ne ka_18 kb (by decide))))).trans (hfr11_8 b kb)
              have hrr11_2 : ∀ b, kd b = 11 → fldR (f_135 b) 2 = fldR (f b) 2 := fun b kb => (congrArg (fun x => fldR x 2) ((congrFun ef_135 b).trans (up_ne (kd_ne ka_18 kb (by decide))))).trans (hrr11_2 b kb)
              have hrr11_3 : ∀ b, kd b = 11 → fldR (f_135 b) 3 = fldR (f b) 3 := fun b kb => (congrArg (fun x => fldR x 3) ((congrFun ef_135 b).trans (up_ne (kd_ne ka_18 kb (by decide))))).trans (hrr11_3 b kb)
              have hrr11_5 : ∀ b, kd b = 11 → fldR (f_135 b) 5 = fldR (f b) 5 := fun b kb => (congrArg (fun x => fldR x 5) ((congrFun ef_135 b).trans (up_ne (kd_ne ka_18 kb (by decide))))).trans (hrr11_5 b kb)
              have hrr11_6 : ∀ b, kd b = 11 → fldR (f_135 b) 6 = fldR (f b) 6 := fun b kb => (congrArg (fun x => fldR x 6) ((congrFun ef_135 b).trans (up_ne (kd_ne ka_18 kb (by decide))))).trans (hrr11_6 b kb)
              have hrr11_7 : ∀ b, kd b = 11 → fldR (f_135 b) 7 = fldR (f b) 7 := fun b kb => (congrArg (fun x => fldR x 7) ((congrFun ef_135 b).trans (up_ne (kd_ne ka_18 kb (by decide))))).trans (hrr11_7 b kb)
              have hrr11_9 : ∀ b, kd b = 11 → fldR (f_135 b) 9 = fldR (f b) 9 := fun b kb => (congrArg (fun x => fldR x 9) ((congrFun ef_135 b).trans (up_ne (kd_ne ka_18 kb (by decide))))).trans (hrr11_9 b kb)
              have hrr11_10 : ∀ b, kd b = 11 → fldR (f_135 b) 10 = fldR (f b) 10 := fun b kb => (congrArg (fun x => fldR x 10) ((congrFun ef_135 b).trans (up_ne (kd_ne ka_18 kb (by decide))))).trans (hrr11_10 b kb)
              have hrr11_16 : ∀ b, kd b = 11 → fldR (f_135 b) 16 = fldR (f b) 16 := fun b kb => (congrArg (fun x => fldR x 16) ((congrFun ef_135 b).trans (up_ne (kd_ne ka_18 kb (by decide))))).trans (hrr11_16 b kb)
              have hT0 : trel kd 7 508 510 515 4 f_135 a_5 := by rw [ef_135]; exact hT0.up ka_18 (by decide) (by decide) (by decide) (by decide) (by decide)
              have hfo_141 : f_135 a_18 = .inl (cI, 16, .inl g_133) := by rw [ef_135]; exact up_self
              obtain ⟨x_142, ex_142⟩ : ∃ y : Int32, y_116 + 1 = y := ⟨_, rfl⟩
              have hx_142 : x_142.toInt = y_116.toInt + 1 := by rw [← ex_142, ad_I (by rw [ti_1]; omega) (by rw [ti_1]; omega), ti_1]
              have bx_142 : (1 ≤ x_142.toInt ∧ x_142.toInt ≤ 8) := by constructor <;> omega
              refine lv_iinc (v := x_142) (lv' := [(2, .int x_142), (1, .int x_42), (0, .ref o0)]) hx hb dX11_takeWord_53 hl (k := 0) rfl ex_142 (by decide) rfl (fun ls hl => ?_)
              refine lv_goto (tgt := 29) hx hb dX11_takeWord_56 (by decide) ?_
              exact ih_hloop_115 x_142 (by constructor <;> omega) f_135 hG _ _ hP hS hD hfr0 hfr11_8 hrr11_2 hrr11_3 hrr11_5 hrr11_6 hrr11_7 hrr11_9 hrr11_10 hrr11_16 hfo_136 hfo_137 hfo_138 hfo_139 hfo_140 hT0 (fun g9 h9 j hj => by rw [hfo_141] at h9; cases h9; have hc9 := cl_I (i := y_116) (by omega); by_cases hji : j = Int32.toNatClampNeg y_116; (· rw [eqg_133, hji, pk_us]; refine ⟨?_, ?_, ?_⟩ <;> omega); (· rw [eqg_133, pk_un hji]; exact hxt g_132 hfo_131 j (by omega))) (by omega) ls (lv_sub hl [0, 1, 2] rfl)
        exact hloop_115 9 0 (by decide) f_43 hG _ _ hP hS hD hfr0 hfr11_8 hrr11_2 hrr11_3 hrr11_5 hrr11_6 hrr11_7 hrr11_9 hrr11_10 hrr11_16 hfo_56 hfo_57 hfo_58 hfo_59 hfo_85 hT0 (fun g9 _ j hj => by exfalso; have h3 : ((0 : Int32)).toInt = 0 := rfl; omega) (by (try rw [ti_0]) <;> omega) ls hl
      · skip
        rw [← Int32.toInt_inj, ti_0] at c_87
        refine lv_iconst (v := (-1)) hx hb dX11_takeWord_25 (by decide) ?_
        exact W.iret (v := (-1)) hx hb hr (fun t ht hW => ⟨⟨(-1), f_43, rfl, ⟨hG, (by decide), hfr0, hfr11_8, hrr11_2, hrr11_3, hrr11_5, hrr11_6, hrr11_7, hrr11_9, hrr11_10, hrr11_16, (by intro w1 z1 w12 z12 e1 e12 d1 d12; rw [hfo_1] at e1 e12; rw [hfo_59] at d1 d12; obtain rfl := Option.some.inj e1; obtain rfl := Option.some.inj d1; obtain rfl := Option.some.inj e12; obtain rfl := Option.some.inj d12; (try rw [ti_m1]) <;> omega), (fun _ _ _ _ _ _ _ _ j hj => by exfalso; have h3 : ((-1 : Int32)).toInt = -1 := (by decide); omega), (fun d9 h9 => by rw [hfo_59] at h9; obtain rfl := Option.some.inj h9; exact hT0)⟩, by rw [ht]; exact hP, va_K.moved hW.alike hK, pl_in hD⟩, hS.F ht⟩) hS.2.2 dX11_takeWord_26
set_option maxHeartbeats 8000000 in
set_option maxRecDepth 100000 in
theorem s_X11_pairOfSigns_k11 (l : Launch) (D : va_G) (cI cL cZ cR cG cH : ClassId) (Z : zT) (kd : Nat → Nat) (L : List Nat) (f : Nat → va_E) (hG : GI (okc cI cL cZ cR cG cH L kd) kd L f) (o0 : Nat) (mo0 : o0 ∈ L) (ko0 : kd o0 = 11) (p1 : Int32) (p2 : Int32) : mPI l D cI cL cZ cR cG cH Z yX11_pairOfSigns cX11_pairOfSigns 5 (some .int) 1 22 [.ref o0, .int p1, .int p2] L f (fun (r : Int32) (f9 : Nat → va_E) => f = f9 ∧ ((-1) ≤ r.toInt ∧ r.toInt ≤ 19)) := by
  obtain ⟨dC, dI⟩ := D
  refine Met.ofW (cc := cX11_pairOfSigns) (maxL := 5) (ret := (some .int)) (by decide) rfl ?_
  intro p e s m args below meth c s₁ B hml hv
  obtain ⟨rfl, hP, hK, hD0, hN, hZ⟩ := hv
  have hx := B.exec
  have hb := B.bytes
  have hr := B.returns
  have hU : ∀ w ∈ wsU, w.before _ s = true := fun w h => atoms_spec (ws := wU yX11_pairOfSigns cX11_pairOfSigns 5 (some .int)) B.pre w (List.mem_cons_of_mem _ h)
  have hown : s.vm.findClass RX11 = some m.cls := findClass_of_methodNamed B.named
  have hlocks := B.notSynchronized
  have hD := pl_in hD0
  have hS : va_S (fun q => q ∈ L) s.heap s.heap [] := va_S.rf
  have hl := lv_entry ([.ref o0, .int p1, .int p2]) (n := 5) (Nat.le_of_ble_eq_true rfl)
  rw [lg_entry_eq]
  generalize (lg_sl ([.ref o0, .int p1, .int p2]) ++ List.replicate (5 - (lg_sl ([.ref o0, .int p1, .int p2])).length) Slot.unset).toArray = ls at hl ⊢
  have hl : lv_has ls 5 [(0, .ref o0), (1, .int p1), (2, .int p2)] := hl
  have bp1 : ((-2147483648) ≤ p1.toInt ∧ p1.toInt ≤ 2147483647) := ⟨i32_lo _, i32_hi _⟩
  have bp2 : ((-2147483648) ≤ p2.toInt ∧ p2.toInt ≤ 2147483647) := ⟨i32_lo _, i32_hi _⟩
  refine lv_aload_n hx hb dX11_pairOfSigns_0 rfl (lv_at hl 0 rfl) ?_
  obtain ⟨a_2, v_3, a_4, a_5, a_6, a_7, a_8, a_9, v_10, a_11, a_12, a_13, v_14, v_15, a_16, v_17, a_18, a_19, v_20, hfo_1, ⟨ma_2, ka_2⟩, bv_3, ⟨ma_4, ka_4⟩, ⟨ma_5, ka_5⟩, ⟨ma_6, ka_6⟩, ⟨ma_7, ka_7⟩, ⟨ma_8, ka_8⟩, ⟨ma_9, ka_9⟩, bv_10, ⟨ma_11, ka_11⟩, ⟨ma_12, ka_12⟩, ⟨ma_13, ka_13⟩, bv_14, ⟨ma_16, ka_16⟩, bv_17, ⟨ma_18, ka_18⟩, ⟨ma_19, ka_19⟩⟩ := un_11 (hG _ mo0) ko0
  have bv_15 : ((-2147483648) ≤ v_15.toInt ∧ v_15.toInt ≤ 2147483647) := ⟨i32_lo _, i32_hi _⟩
  have bv_20 : ((-2147483648) ≤ v_20.toInt ∧ v_20.toInt ≤ 2147483647) := ⟨i32_lo _, i32_hi _⟩
  refine tk_getP (D := (dC, dI)) (ci := 11) (v := .ref a_5) (C := RX11) (T := TX11) (N := 19) hx hb hU inlX11 hown hK hP mo0 hfo_1 rfl 3 (by decide) (hU _ wd_19) (fun _ h9 => h9) rfl dX11_pairOfSigns_1 ?_
  refine lv_iload_n hx hb dX11_pairOfSigns_4 rfl (lv_at hl 1 rfl) ?_
  obtain ⟨a_22, v_23, a_24, a_25, a_26, a_27, v_28, a_29, a_30, a_31, a_32, a_33, v_34, a_35, a_36, a_37, hfo_21, ⟨ma_22, ka_22⟩, bv_23, ⟨ma_24, ka_24⟩, ⟨ma_25, ka_25⟩, ⟨ma_26, ka_26⟩, ⟨ma_27, ka_27⟩, bv_28, ⟨ma_29, ka_29⟩, ⟨ma_30, ka_30⟩, ⟨ma_31, ka_31⟩, ⟨ma_32, ka_32⟩, ⟨ma_33, ka_33⟩, bv_34, ⟨ma_35, ka_35⟩, ⟨ma_36, ka_36⟩, ⟨ma_37, ka_37⟩⟩ := un_7 (hG _ ma_5) ka_5
  refine tk_ViP (As := [.int p1]) (rest := []) (n := 1) hx hb hml hown hU hN hZ (s_X7_signOf_k7 l (dC, dI) cI cL cZ cR cG cH Z kd L f hG a_5 ma_5 ka_5 p1) wd_717 wd_346 wd_347 wd_28 wd_348 (by decide +kernel) ⟨Nat.le_of_ble_eq_true rfl, Nat.le_of_ble_eq_true rfl⟩ hK hP hD hS ma_5 hfo_21 7 rfl rfl rfl hl.1 rfl (Nat.le_of_ble_eq_true rfl) dX11_pairOfSigns_5 ⟨Nat.le_of_ble_eq_true rfl, Nat.le_of_ble_eq_true rfl⟩ (fun x_38 f_39 H locs hw hP hD hS => ?_)
  obtain ⟨rfl, bx_38⟩ := hw
  refine lv_istore_n (lv' := [(3, .int x_38), (0, .ref o0), (1, .int p1), (2, .int p2)]) hx hb dX11_pairOfSigns_8 rfl hl (by decide) rfl (fun ls hl => ?_)
  refine lv_aload_n hx hb dX11_pairOfSigns_9 rfl (lv_at hl 1 rfl) ?_
  refine tk_getP (D := (dC, dI)) (ci := 11) (v := .ref a_5) (C := RX11) (T := TX11) (N := 19) hx hb hU inlX11 hown hK hP mo0 hfo_1 rfl 3 (by decide) (hU _ wd_19) (fun _ h9 => h9) rfl dX11_pairOfSigns_10 ?_
  refine lv_iload_n hx hb dX11_pairOfSigns_13 rfl (lv_at hl 3 rfl) ?_
  refine tk_ViP (As := [.int p2]) (rest := []) (n := 1) hx hb hml hown hU hN hZ (s_X7_signOf_k7 l (dC, dI) cI cL cZ cR cG cH Z kd L f hG a_5 ma_5 ka_5 p2) wd_717 wd_346 wd_347 wd_28 wd_348 (by decide +kernel) ⟨Nat.le_of_ble_eq_true rfl, Nat.le_of_ble_eq_true rfl⟩ hK hP hD hS ma_5 hfo_21 7 rfl rfl rfl hl.1 rfl (Nat.le_of_ble_eq_true rfl) dX11_pairOfSigns_14 ⟨Nat.le_of_ble_eq_true rfl, Nat.le_of_ble_eq_true rfl⟩ (fun x_41 f_42 H locs hw hP hD hS => ?_)
  obtain ⟨rfl, bx_41⟩ := hw
  refine lv_istore (lv' := [(4, .int x_41), (3, .int x_38), (0, .ref o0), (1, .int p1), (2, .int p2)]) hx hb dX11_pairOfSigns_17 hl (by decide) rfl (fun ls hl => ?_)
  refine lv_iload_n hx hb dX11_pairOfSigns_19 rfl (lv_at hl 1 rfl) ?_
  refine lv_if_ne (tgt := 29) hx hb dX11_pairOfSigns_20 (by decide) (fun c_44 => ?_) (fun c_44 => ?_)
  · skip
    rw [← Int32.toInt_inj, ti_0] at c_44
    refine lv_iload hx hb dX11_pairOfSigns_29 (lv_at hl 0 rfl) ?_
    refine lv_if_ne (tgt := 42) hx hb dX11_pairOfSigns_31 (by decide) (fun c_45 => ?_) (fun c_45 => ?_)
    · skip
      rw [← Int32.toInt_inj, ti_0] at c_45
      refine lv_aload_n hx hb dX11_pairOfSigns_42 rfl (lv_at hl 2 rfl) ?_
      refine tk_getP (D := (dC, dI)) (ci := 11) (v := .ref a_5) (C := RX11) (T := TX11) (N := 19) hx hb hU inlX11 hown hK hP mo0 hfo_1 rfl 3 (by decide) (hU _ wd_19) (fun _ h9 => h9) rfl dX11_pairOfSigns_43 ?_
      refine lv_iload_n hx hb dX11_pairOfSigns_46 rfl (lv_at hl 1 rfl) ?_
      refine lv_iload hx hb dX11_pairOfSigns_47 (lv_at hl 0 rfl) ?_
      refine tk_ViP (As := [.int x_38, .int x_41]) (rest := []) (n := 2) hx hb hml hown hU hN hZ (s_X7_pairOf_k7 l (dC, dI) cI cL cZ cR cG cH Z kd L f hG a_5 ma_5 ka_5 x_38 x_41) wd_1079 wd_393 wd_394 wd_28 wd_395 (by decide +kernel) ⟨Nat.le_of_ble_eq_true rfl, Nat.le_of_ble_eq_true rfl⟩ hK hP hD hS ma_5 hfo_21 7 rfl rfl rfl hl.1 rfl (Nat.le_of_ble_eq_true rfl) dX11_pairOfSigns_49 ⟨Nat.le_of_ble_eq_true rfl, Nat.le_of_ble_eq_true rfl⟩ (fun x_46 f_47 H locs hw hP hD hS => ?_)
      obtain ⟨rfl, bx_46⟩ := hw
      exact W.iret (v := x_46) hx hb hr (fun t ht hW => ⟨⟨x_46, f, rfl, ⟨rfl, (by constructor <;> omega)⟩, by rw [ht]; exact hP, va_K.moved hW.alike hK, pl_in hD⟩, hS.F ht⟩) hS.2.2 dX11_pairOfSigns_52
    · skip
      rw [← Int32.toInt_inj, ti_0] at c_45
      refine lv_iload_n hx hb dX11_pairOfSigns_34 rfl (lv_at hl 4 rfl) ?_
      refine lv_bipush (v := 48) hx hb dX11_pairOfSigns_35 (by decide) ?_
      refine lv_icmp_eq (tgt := 42) hx hb dX11_pairOfSigns_37 (by decide) (fun c_49 => ?_) (fun c_49 => ?_)
      · skip
        rw [← Int32.toInt_inj, ti_48] at c_49
        refine lv_aload_n hx hb dX11_pairOfSigns_42 rfl (lv_at hl 2 rfl) ?_
        refine tk_getP (D := (dC, dI)) (ci := 11) (v := .ref a_5) (C := RX11) (T := TX11) (N := 19) hx hb hU inlX11 hown hK hP mo0 hfo_1 rfl 3 (by decide) (hU _ wd_19) (fun _ h9 => h9) rfl dX11_pairOfSigns_43 ?_
        refine lv_iload_n hx hb dX11_pairOfSigns_46 rfl (lv_at hl 1 rfl) ?_
        refine lv_iload hx hb dX11_pairOfSigns_47 (lv_at hl 0 rfl) ?_
        refine tk_ViP (As := [.int x_38, .int x_41]) (rest := []) (n := 2) hx hb hml hown hU hN hZ (s_X7_pairOf_k7 l (dC, dI) cI cL cZ cR cG cH Z kd L f hG a_5 ma_5 ka_5 x_38 x_41) wd_1079 wd_393 wd_394 wd_28 wd_395 (by decide +kernel) ⟨Nat.le_of_ble_eq_true rfl, Nat.le_of_ble_eq_true rfl⟩ hK hP hD hS ma_5 hfo_21 7 rfl rfl rfl hl.1 rfl (Nat.le_of_ble_eq_true rfl) dX11_pairOfSigns_49 ⟨Nat.le_of_ble_eq_true rfl, Nat.le_of_ble_eq_true rfl⟩ (fun x_50 f_51 H locs hw hP hD hS => ?_)
        obtain ⟨rfl, bx_50⟩ := hw
        exact W.iret (v := x_50) hx hb hr (fun t ht hW => ⟨⟨x_50, f, rfl, ⟨rfl, (by constructor <;> omega)⟩, by rw [ht]; exact hP, va_K.moved hW.alike hK, pl_in hD⟩, hS.F ht⟩) hS.2.2 dX11_pairOfSigns_52
      · skip
        rw [← Int32.toInt_inj, ti_48] at c_49
        refine lv_iconst (v := (-1)) hx hb dX11_pairOfSigns_40 (by decide) ?_
        exact W.iret (v := (-1)) hx hb hr (fun t ht hW => ⟨⟨(-1), f, rfl, ⟨rfl, (by decide)⟩, by rw [ht]; exact hP, va_K.moved hW.alike hK, pl_in hD⟩, hS.F ht⟩) hS.2.2 dX11_pairOfSigns_41
  · skip
    rw [← Int32.toInt_inj, ti_0] at c_44
    refine lv_iload_n hx hb dX11_pairOfSigns_23 rfl (lv_at hl 3 rfl) ?_
    refine lv_bipush (v := 48) hx hb dX11_pairOfSigns_24 (by decide) ?_
    refine lv_icmp_ne (tgt := 40) hx hb dX11_pairOfSigns_26 (by decide) (fun c_53 => ?_) (fun c_53 => ?_)
    · skip
      rw [← Int32.toInt_inj, ti_48] at c_53
      refine lv_iconst (v := (-1)) hx hb dX11_pairOfSigns_40 (by decide) ?_
      exact W.iret (v := (-1)) hx hb hr (fun t ht hW => ⟨⟨(-1), f, rfl, ⟨rfl, (by decide)⟩, by rw [ht]; exact hP, va_K.moved hW.alike hK, pl_in hD⟩, hS.F ht⟩) hS.2.2 dX11_pairOfSigns_41
    · skip
      rw [← Int32.toInt_inj, ti_48] at c_53
      refine lv_iload hx hb dX11_pairOfSigns_29 (lv_at hl 0 rfl) ?_
      refine lv_if_ne (tgt := 42) hx hb dX11_pairOfSigns_31 (by decide) (fun c_54 => ?_) (fun c_54 => ?_)
      · skip
        rw [← Int32.toInt_inj, ti_0] at c_54
        refine lv_aload_n hx hb dX11_pairOfSigns_42 rfl (lv_at hl 2 rfl) ?_
        refine tk_getP (D := (dC, dI)) (ci := 11) (v := .ref a_5) (C := RX11) (T := TX11) (N := 19) hx hb hU inlX11 hown hK hP mo0 hfo_1 rfl 3 (by decide) (hU _ wd_19) (fun _ h9 => h9) rfl dX11_pairOfSigns_43 ?_
        refine lv_iload_n hx hb dX11_pairOfSigns_46 rfl (lv_at hl 1 rfl) ?_
        refine lv_iload hx hb dX11_pairOfSigns_47 (lv_at hl 0 rfl) ?_
        refine tk_ViP (As := [.int x_38, .int x_41]) (rest := []) (n := 2) hx hb hml hown hU hN hZ (s_X7_pairOf_k7 l (dC, dI) cI cL cZ cR cG cH Z kd L f hG a_5 ma_5 ka_5 x_38 x_41) wd_1079 wd_393 wd_394 wd_28 wd_395 (by decide +kernel) ⟨Nat.le_of_ble_eq_true rfl, Nat.le_of_ble_eq_true rfl⟩ hK hP hD hS ma_5 hfo_21 7 rfl rfl rfl hl.1 rfl (Nat.le_of_ble_eq_true rfl) dX11_pairOfSigns_49 ⟨Nat.le_of_ble_eq_true rfl, Nat.le_of_ble_eq_true rfl⟩ (fun x_55 f_56 H locs hw hP hD hS => ?_)
        obtain ⟨rfl, bx_55⟩ := hw
        exact W.iret (v := x_55) hx hb hr (fun t ht hW => ⟨⟨x_55, f, rfl, ⟨rfl, (by constructor <;> omega)⟩, by rw [ht]; exact hP, va_K.moved hW.alike hK, pl_in hD⟩, hS.F ht⟩) hS.2.2 dX11_pairOfSigns_52
      · skip
        rw [← Int32.toInt_inj, ti_0] at c_54
        refine lv_iload_n hx hb dX11_pairOfSigns_34 rfl (lv_at hl 4 rfl) ?_
        refine lv_bipush (v := 48) hx hb dX11_pairOfSigns_35 (by decide) ?_
        refine lv_icmp_eq (tgt := 42) hx hb dX11_pairOfSigns_37 (by decide) (fun c_58 => ?_) (fun c_58 => ?_)
        · skip
          rw [← Int32.toInt_inj, ti_48] at c_58
          refine lv_aload_n hx hb dX11_pairOfSigns_42 rfl (lv_at hl 2 rfl) ?_
          refine tk_getP (D := (dC, dI)) (ci := 11) (v := .ref a_5) (C := RX11) (T := TX11) (N := 19) hx hb hU inlX11 hown hK hP mo0 hfo_1 rfl 3 (by decide) (hU _ wd_19) (fun _ h9 => h9) rfl dX11_pairOfSigns_43 ?_
          refine lv_iload_n hx hb dX11_pairOfSigns_46 rfl (lv_at hl 1 rfl) ?_
          refine lv_iload hx hb dX11_pairOfSigns_47 (lv_at hl 0 rfl) ?_
          refine tk_ViP (As := [.int x_38, .int x_41]) (rest := []) (n := 2) hx hb hml hown hU hN hZ (s_X7_pairOf_k7 l (dC, dI) cI cL cZ cR cG cH Z kd L f hG a_5 ma_5 ka_5 x_38 x_41) wd_1079 wd_393 wd_394 wd_28 wd_395 (by decide +kernel) ⟨Nat.le_of_ble_eq_true rfl, Nat.le_of_ble_eq_true rfl⟩ hK hP hD hS ma_5 hfo_21 7 rfl rfl rfl hl.1 rfl (Nat.le_of_ble_eq_true rfl) dX11_pairOfSigns_49 ⟨Nat.le_of_ble_eq_true rfl, Nat.le_of_ble_eq_true rfl⟩ (fun x_59 f_60 H locs hw hP hD hS => ?_)
          obtain ⟨rfl, bx_59⟩ := hw
          exact W.iret (v := x_59) hx hb hr (fun t ht hW => ⟨⟨x_59, f, rfl, ⟨rfl, (by constructor <;> omega)⟩, by rw [ht]; exact hP, va_K.moved hW.alike hK, pl_in hD⟩, hS.F ht⟩) hS.2.2 dX11_pairOfSigns_52
        · skip
          rw [← Int32.toInt_inj, ti_48] at c_58
          refine lv_iconst (v := (-1)) hx hb dX11_pairOfSigns_40 (by decide) ?_
          exact W.iret (v := (-1)) hx hb hr (fun t ht hW => ⟨⟨(-1), f, rfl, ⟨rfl, (by decide)⟩, by rw [ht]; exact hP, va_K.moved hW.alike hK, pl_in hD⟩, hS.F ht⟩) hS.2.2 dX11_pairOfSigns_41
set_option maxHeartbeats 8000000 in
set_option maxRecDepth 100000 in
theorem s_X11_takeRow_k11 (l : Launch) (D : va_G) (cI cL cZ cR cG cH : ClassId) (Z : zT) (kd : Nat → Nat) (L : List Nat) (f : Nat → va_E) (hG : GI (okc cI cL cZ cR cG cH L kd) kd L f) (o0 : Nat) (mo0 : o0 ∈ L) (ko0 : kd o0 = 11) : mPI l D cI cL cZ cR cG cH Z yX11_takeRow cX11_takeRow 4 (some .int) 2 46 [.ref o0] L f (fun (r : Int32) (f9 : Nat → va_E) => GI (okc cI cL cZ cR cG cH L kd) kd L f9 ∧ ((-1) ≤ r.toInt ∧ r.toInt ≤ 16) ∧ (∀ b, kd b ≠ 11 → kd b ≠ 540 → f9 b = f b) ∧ (∀ b, kd b = 11 → fldI (f9 b) 8 = fldI (f b) 8) ∧ (∀ b, kd b = 11 → fldR (f9 b) 2 = fldR (f b) 2) ∧ (∀ b, kd b = 11 → fldR (f9 b) 3 = fldR (f b) 3) ∧ (∀ b, kd b = 11 → fldR (f9 b) 5 = fldR (f b) 5) ∧ (∀ b, kd b = 11 → fldR (f9 b) 6 = fldR (f b) 6) ∧ (∀ b, kd b = 11 → fldR (f9 b) 7 = fldR (f b) 7) ∧ (∀ b, kd b = 11 → fldR (f9 b) 9 = fldR (f b) 9) ∧ (∀ b, kd b = 11 → fldR (f9 b) 10 = fldR (f b) 10) ∧ (∀ b, kd b = 11 → fldR (f9 b) 16 = fldR (f b) 16) ∧ (∀ (w1 z1 : Int32), fldI (f o0) 1 = some w1 → fldI (f9 o0) 1 = some z1 → z1.toInt = 0)) := by
  obtain ⟨dC, dI⟩ := D
  refine Met.ofW (cc := cX11_takeRow) (maxL := 4) (ret := (some .int)) (by decide) rfl ?_
  intro p e s m args below meth c s₁ B hml hv
  obtain ⟨rfl, hP, hK, hD0, hN, hZ⟩ := hv
  have hx := B.exec
  have hb := B.bytes
  have hr := B.returns
  have hU : ∀ w ∈ wsU, w.before _ s = true := fun w h => atoms_spec (ws := wU yX11_takeRow cX11_takeRow 4 (some .int)) B.pre w (List.mem_cons_of_mem _ h)
  have hown : s.vm.findClass RX11 = some m.cls := findClass_of_methodNamed B.named
  have hlocks := B.notSynchronized
  have hD := pl_in hD0
  have hS : va_S (fun q => q ∈ L) s.heap s.heap [] := va_S.rf
  have hl := lv_entry ([.ref o0]) (n := 4) (Nat.le_of_ble_eq_true rfl)
  rw [lg_entry_eq]
  generalize (lg_sl ([.ref o0]) ++ List.replicate (4 - (lg_sl ([.ref o0])).length) Slot.unset).toArray = ls at hl ⊢
  have hl : lv_has ls 4 [(0, .ref o0)] := hl
  have hfr0 : ∀ b, kd b ≠ 11 → kd b ≠ 540 → f b = f b := fun _ _ _ => rfl
  have hfr11_8 : ∀ b, kd b = 11 → fldI (f b) 8 = fldI (f b) 8 := fun _ _ => rfl
  have hrr11_2 : ∀ b, kd b = 11 → fldR (f b) 2 = fldR (f b) 2 := fun _ _ => rfl
  have hrr11_3 : ∀ b, kd b = 11 → fldR (f b) 3 = fldR (f b) 3 := fun _ _ => rfl
  have hrr11_5 : ∀ b, kd b = 11 → fldR (f b) 5 = fldR (f b) 5 := fun _ _ => rfl
  have hrr11_6 : ∀ b, kd b = 11 → fldR (f b) 6 = fldR (f b) 6 := fun _ _ => rfl
  have hrr11_7 : ∀ b, kd b = 11 → fldR (f b) 7 = fldR (f b) 7 := fun _ _ => rfl
  have hrr11_9 : ∀ b, kd b = 11 → fldR (f b) 9 = fldR (f b) 9 := fun _ _ => rfl
  have hrr11_10 : ∀ b, kd b = 11 → fldR (f b) 10 = fldR (f b) 10 := fun _ _ => rfl
  have hrr11_16 : ∀ b, kd b = 11 → fldR (f b) 16 = fldR (f b) 16 := fun _ _ => rfl
  obtain ⟨a_2, v_3, a_4, a_5, a_6, a_7, a_8, a_9, v_10, a_11, a_12, a_13, v_14, v_15, a_16, v_17, a_18, a_19, v_20, hfo_1, ⟨ma_2, ka_2⟩, bv_3, ⟨ma_4, ka_4⟩, ⟨ma_5, ka_5⟩, ⟨ma_6, ka_6⟩, ⟨ma_7, ka_7⟩, ⟨ma_8, ka_8⟩, ⟨ma_9, ka_9⟩, bv_10, ⟨ma_11, ka_11⟩, ⟨ma_12, ka_12⟩, ⟨ma_13, ka_13⟩, bv_14, ⟨ma_16, ka_16⟩, bv_17, ⟨ma_18, ka_18⟩, ⟨ma_19, ka_19⟩⟩ := un_11 (hG _ mo0) ko0
  have bv_15 : ((-2147483648) ≤ v_15.toInt ∧ v_15.toInt ≤ 2147483647) := ⟨i32_lo _, i32_hi _⟩
  have bv_20 : ((-2147483648) ≤ v_20.toInt ∧ v_20.toInt ≤ 2147483647) := ⟨i32_lo _, i32_hi _⟩
  refine lv_aload_n hx hb dX11_takeRow_0 rfl (lv_at hl 0 rfl) ?_
  refine tk_ViP (As := []) (rest := []) (n := 0) hx hb hml hown hU hN hZ (s_X11_emptyTape_k11_e l (dC, dI) cI cL cZ cR cG cH Z kd L f hG o0 mo0 ko0) wd_239 wd_240 wd_241 wd_2 wd_242 (by decide +kernel) ⟨Nat.le_of_ble_eq_true rfl, Nat.le_of_ble_eq_true rfl⟩ hK hP hD hS mo0 hfo_1 11 rfl rfl rfl hl.1 rfl (Nat.le_of_ble_eq_true rfl) dX11_takeRow_1 ⟨Nat.le_of_ble_eq_true rfl, Nat.le_of_ble_eq_true rfl⟩ (fun x_21 f_22 H locs hw hP hD hS => ?_)
  obtain ⟨hG, bx_21, hkc_23, hfc_24, hrc_25, hrc_26, hrc_27, hrc_28, hrc_29, hrc_30, hrc_31, hrc_32, hpost_33⟩ := hw
  have hfr0 : ∀ b, kd b ≠ 11 → kd b ≠ 540 → f_22 b = f b := fun b q11 q540 => (hkc_23 b q11).trans (hfr0 b q11 q540)
  have hfr11_8 : ∀ b, kd b = 11 → fldI (f_22 b) 8 = fldI (f b) 8 := fun b kb => (hfc_24 b kb).trans (hfr11_8 b kb)
  have hrr11_2 : ∀ b, kd b = 11 → fldR (f_22 b) 2 = fldR (f b) 2 := fun b kb => (hrc_25 b kb).trans (hrr11_2 b kb)
  have hrr11_3 : ∀ b, kd b = 11 → fldR (f_22 b) 3 = fldR (f b) 3 := fun b kb => (hrc_26 b kb).trans (hrr11_3 b kb)
  have hrr11_5 : ∀ b, kd b = 11 → fldR (f_22 b) 5 = fldR (f b) 5 := fun b kb => (hrc_27 b kb).trans (hrr11_5 b kb)
  have hrr11_6 : ∀ b, kd b = 11 → fldR (f_22 b) 6 = fldR (f b) 6 := fun b kb => (hrc_28 b kb).trans (hrr11_6 b kb)
  have hrr11_7 : ∀ b, kd b = 11 → fldR (f_22 b) 7 = fldR (f b) 7 := fun b kb => (hrc_29 b kb).trans (hrr11_7 b kb)
  have hrr11_9 : ∀ b, kd b = 11 → fldR (f_22 b) 9 = fldR (f b) 9 := fun b kb => (hrc_30 b kb).trans (hrr11_9 b kb)
  have hrr11_10 : ∀ b, kd b = 11 → fldR (f_22 b) 10 = fldR (f b) 10 := fun b kb => (hrc_31 b kb).trans (hrr11_10 b kb)
  have hrr11_16 : ∀ b, kd b = 11 → fldR (f_22 b) 16 = fldR (f b) 16 := fun b kb => (hrc_32 b kb).trans (hrr11_16 b kb)
  obtain ⟨a_36, v_37, a_38, a_39, a_40, a_41, a_42, a_43, v_44, a_45, a_46, a_47, v_48, v_49, a_50, v_51, a_52, a_53, v_54, hfo_35, ⟨ma_36, ka_36⟩, bv_37, ⟨ma_38, ka_38⟩, ⟨ma_39, ka_39⟩, ⟨ma_40, ka_40⟩, ⟨ma_41, ka_41⟩, ⟨ma_42, ka_42⟩, ⟨ma_43, ka_43⟩, bv_44, ⟨ma_45, ka_45⟩, ⟨ma_46, ka_46⟩, ⟨ma_47, ka_47⟩, bv_48, ⟨ma_50, ka_50⟩, bv_51, ⟨ma_52, ka_52⟩, ⟨ma_53, ka_53⟩⟩ := un_11 (hG _ mo0) ko0
  have bv_49 : ((-2147483648) ≤ v_49.toInt ∧ v_49.toInt ≤ 2147483647) := ⟨i32_lo _, i32_hi _⟩
  have bv_54 : ((-2147483648) ≤ v_54.toInt ∧ v_54.toInt ≤ 2147483647) := ⟨i32_lo _, i32_hi _⟩
  obtain rfl : a_4 = a_38 := by have hk9 := hrr11_2 o0 ko0; rw [hfo_35, hfo_1] at hk9; exact (Option.some.inj hk9).symm
  obtain rfl : a_5 = a_39 := by have hk9 := hrr11_3 o0 ko0; rw [hfo_35, hfo_1] at hk9; exact (Option.some.inj hk9).symm
  obtain rfl : a_7 = a_41 := by have hk9 := hrr11_5 o0 ko0; rw [hfo_35, hfo_1] at hk9; exact (Option.some.inj hk9).symm
  obtain rfl : a_8 = a_42 := by have hk9 := hrr11_6 o0 ko0; rw [hfo_35, hfo_1] at hk9; exact (Option.some.inj hk9).symm
  obtain rfl : a_9 = a_43 := by have hk9 := hrr11_7 o0 ko0; rw [hfo_35, hfo_1] at hk9; exact (Option.some.inj hk9).symm
  obtain rfl : a_11 = a_45 := by have hk9 := hrr11_9 o0 ko0; rw [hfo_35, hfo_1] at hk9; exact (Option.some.inj hk9).symm
  obtain rfl : a_12 = a_46 := by have hk9 := hrr11_10 o0 ko0; rw [hfo_35, hfo_1] at hk9; exact (Option.some.inj hk9).symm
  obtain rfl : a_18 = a_52 := by have hk9 := hrr11_16 o0 ko0; rw [hfo_35, hfo_1] at hk9; exact (Option.some.inj hk9).symm
  obtain rfl : v_10 = v_44 := by have hk9 := hfc_24 o0 ko0; rw [hfo_35, hfo_1] at hk9; exact (Option.some.inj hk9).symm
  have hqhpost_33 := hpost_33 v_3 v_37 v_14 v_48 (by rw [hfo_1]; rfl) (by rw [hfo_1]; rfl) (by rw [hfo_35]; rfl) (by rw [hfo_35]; rfl)
  refine lv_istore_n (lv' := [(1, .int x_21), (0, .ref o0)]) hx hb dX11_takeRow_4 rfl hl (by decide) rfl (fun ls hl => ?_)
  refine lv_iload_n hx hb dX11_takeRow_5 rfl (lv_at hl 0 rfl) ?_
  refine lv_iconst (v := 2) hx hb dX11_takeRow_6 (by decide) ?_
  refine lv_icmp_lt (tgt := 22) hx hb dX11_takeRow_7 (by decide) (fun c_55 => ?_) (fun c_55 => ?_)
  · skip
    rw [Int32.lt_iff_toInt_lt, ti_2] at c_55
    refine lv_iconst (v := (-1)) hx hb dX11_takeRow_22 (by decide) ?_
    exact W.iret (v := (-1)) hx hb hr (fun t ht hW => ⟨⟨(-1), f_22, rfl, ⟨hG, (by decide), hfr0, hfr11_8, hrr11_2, hrr11_3, hrr11_5, hrr11_6, hrr11_7, hrr11_9, hrr11_10, hrr11_16, (by intro w1 z1 e1 d1; rw [hfo_1] at e1; rw [hfo_35] at d1; obtain rfl := Option.some.inj e1; obtain rfl := Option.some.inj d1; (try rw [ti_m1]) <;> omega)⟩, by rw [ht]; exact hP, va_K.moved hW.alike hK, pl_in hD⟩, hS.F ht⟩) hS.2.2 dX11_takeRow_23
  · skip
    rw [Int32.lt_iff_toInt_lt, ti_2] at c_55
    refine lv_iload_n hx hb dX11_takeRow_10 rfl (lv_at hl 0 rfl) ?_
    refine lv_bipush (v := 32) hx hb dX11_takeRow_11 (by decide) ?_
    refine lv_icmp_gt (tgt := 22) hx hb dX11_takeRow_13 (by decide) (fun c_56 => ?_) (fun c_56 => ?_)
    · skip
      rw [Int32.lt_iff_toInt_lt, ti_32] at c_56
      refine lv_iconst (v := (-1)) hx hb dX11_takeRow_22 (by decide) ?_
      exact W.iret (v := (-1)) hx hb hr (fun t ht hW => ⟨⟨(-1), f_22, rfl, ⟨hG, (by decide), hfr0, hfr11_8, hrr11_2, hrr11_3, hrr11_5, hrr11_6, hrr11_7, hrr11_9, hrr11_10, hrr11_16, (by intro w1 z1 e1 d1; rw [hfo_1] at e1; rw [hfo_35] at d1; obtain rfl := Option.some.inj e1; obtain rfl := Option.some.inj d1; (try rw [ti_m1]) <;> omega)⟩, by rw [ht]; exact hP, va_K.moved hW.alike hK, pl_in hD⟩, hS.F ht⟩) hS.2.2 dX11_takeRow_23
    · skip
      rw [Int32.lt_iff_toInt_lt, ti_32] at c_56
      refine lv_iload_n hx hb dX11_takeRow_16 rfl (lv_at hl 0 rfl) ?_
      refine lv_iconst (v := 2) hx hb dX11_takeRow_17 (by decide) ?_
      refine lv_irem hx hb dX11_takeRow_18 (by decide) ?_
      refine lv_topi (fun x_57 ex_57 => ?_)
      have hx_57 : x_57.toInt = x_21.toInt % 2 := by rw [ex_57, rm_I (by omega) (by rw [ti_2]; omega), ti_2]
      have bx_57 : (0 ≤ x_57.toInt ∧ x_57.toInt ≤ 1) := by constructor <;> omega
      refine lv_if_eq (tgt := 24) hx hb dX11_takeRow_19 (by decide) (fun c_58 => ?_) (fun c_58 => ?_)
      · skip
        rw [← Int32.toInt_inj, ti_0] at c_58
        refine lv_iconst (v := 0) hx hb dX11_takeRow_24 (by decide) ?_
        refine lv_istore_n (lv' := [(2, .int 0), (1, .int x_21), (0, .ref o0)]) hx hb dX11_takeRow_25 rfl hl (by decide) rfl (fun ls hl => ?_)
        have hloop_74 : ∀ (n : Nat), ∀ (y_75 : Int32), (0 ≤ y_75.toInt ∧ y_75.toInt ≤ 33) → ∀ (f_77 : Nat → va_E), GI (okc cI cL cZ cR cG cH L kd) kd L f_77 → ∀ (H : Heap) (locs : List Loc), va_P (dC, dI) vwCl (va_pl L f_77) H → va_S (fun q => q ∈ L) s.heap H locs → va_D (fun q => q ∈ L) (va_pl L f_77) → (∀ b, kd b ≠ 11 → kd b ≠ 540 → f_77 b = f b) → (∀ b, kd b = 11 → fldI (f_77 b) 8 = fldI (f b) 8) → (∀ b, kd b = 11 → fldR (f_77 b) 2 = fldR (f b) 2) → (∀ b, kd b = 11 → fldR (f_77 b) 3 = fldR (f b) 3) → (∀ b, kd b = 11 → fldR (f_77 b) 5 = fldR (f b) 5) → (∀ b, kd b = 11 → fldR (f_77 b) 6 = fldR (f b) 6) → (∀ b, kd b = 11 → fldR (f_77 b) 7 = fldR (f b) 7) → (∀ b, kd b = 11 → fldR (f_77 b) 9 = fldR (f b) 9) → (∀ b, kd b = 11 → fldR (f_77 b) 10 = fldR (f b) 10) → (∀ b, kd b = 11 → fldR (f_77 b) 16 = fldR (f b) 16) → (f_77 o0 = .inr (11, [.ref a_36, .int v_37, .ref a_4, .ref a_5, .ref a_40, .ref a_7, .ref a_8, .ref a_9, .int v_10, .ref a_11, .ref a_12, .ref a_47, .int v_48, .int v_49, .ref a_50, .int v_51, .ref a_18, .ref a_53, .int v_54])) → 33 - y_75.toInt < (n : Int) → ∀ (ls : Array Slot), lv_has ls 4 [(2, .int y_75), (1, .int x_21), (0, .ref o0)] → W p l e (headSpec (wU yX11_takeRow cX11_takeRow 4 (some .int)) { frames := 2, cells := 0, slots := 0, locals := 46 }).room s m [.ref o0].toArray below meth c H locs 0 0 (MQ below (va_Qi (fun (r : Int32) (f9 : Nat → va_E) => GI (okc cI cL cZ cR cG cH L kd) kd L f9 ∧ ((-1) ≤ r.toInt ∧ r.toInt ≤ 16) ∧ (∀ b, kd b ≠ 11 → kd b ≠ 540 → f9 b = f b) ∧ (∀ b, kd b = 11 → fldI (f9 b) 8 = fldI (f b) 8) ∧ (∀ b, kd b = 11 → fldR (f9 b) 2 = fldR (f b) 2) ∧ (∀ b, kd b = 11 → fldR (f9 b) 3 = fldR (f b) 3) ∧ (∀ b, kd b = 11 → fldR (f9 b) 5 = fldR (f b) 5) ∧ (∀ b, kd b = 11 → fldR (f9 b) 6 = fldR (f b) 6) ∧ (∀ b, kd b = 11 → fldR (f9 b) 7 = fldR (f b) 7) ∧ (∀ b, kd b = 11 → fldR (f9 b) 9 = fldR (f b) 9) ∧ (∀ b, kd b = 11 → fldR (f9 b) 10 = fldR (f b) 10) ∧ (∀ b, kd b = 11 → fldR (f9 b) 16 = fldR (f b) 16) ∧ (∀ (w1 z1 : Int32), fldI (f o0) 1 = some w1 → fldI (f9 o0) 1 = some z1 → z1.toInt = 0)) (qP (dC, dI) cI cL cZ cR cG cH L) (fun q => q ∈ L)) [.ref o0].toArray s 0 0 (fun q => q ∈ L)) (F0 m 26 ls []) := by
          intro n
          induction n with
          | zero => intro y_75 by_75 f_77 hG H locs hP hS hD hfr0 hfr11_8 hrr11_2 hrr11_3 hrr11_5 hrr11_6 hrr11_7 hrr11_9 hrr11_10 hrr11_16 hfo_78 hmuhloop_74 ls hl; exfalso; omega
          | succ n ih_hloop_74 =>
            intro y_75 by_75 f_77 hG H locs hP hS hD hfr0 hfr11_8 hrr11_2 hrr11_3 hrr11_5 hrr11_6 hrr11_7 hrr11_9 hrr11_10 hrr11_16 hfo_78 hmuhloop_74 ls hl
            refine lv_iload_n hx hb dX11_takeRow_26 rfl (lv_at hl 0 rfl) ?_
            refine lv_iload_n hx hb dX11_takeRow_27 rfl (lv_at hl 1 rfl) ?_
            refine lv_icmp_ge (tgt := 72) hx hb dX11_takeRow_28 (by decide) (fun c_79 => ?_) (fun c_79 => ?_)
            · skip
              rw [Int32.le_iff_toInt_le] at c_79
              refine lv_iload_n hx hb dX11_takeRow_72 rfl (lv_at hl 1 rfl) ?_
              refine lv_iconst (v := 2) hx hb dX11_takeRow_73 (by decide) ?_
              refine lv_idiv hx hb dX11_takeRow_74 (by decide) ?_
              refine lv_topi (fun x_80 ex_80 => ?_)
              have hx_80 : x_80.toInt = x_21.toInt / 2 := by rw [ex_80, dv_I (by omega) (by rw [ti_2]; omega), ti_2]
              have bx_80 : (1 ≤ x_80.toInt ∧ x_80.toInt ≤ 16) := by constructor <;> omega
              exact W.iret (v := x_80) hx hb hr (fun t ht hW => ⟨⟨x_80, f_77, rfl, ⟨hG, (by constructor <;> omega), hfr0, hfr11_8, hrr11_2, hrr11_3, hrr11_5, hrr11_6, hrr11_7, hrr11_9, hrr11_10, hrr11_16, (by intro w1 z1 e1 d1; rw [hfo_1] at e1; rw [hfo_78] at d1; obtain rfl := Option.some.inj e1; obtain rfl := Option.some.inj d1; omega)⟩, by rw [ht]; exact hP, va_K.moved hW.alike hK, pl_in hD⟩, hS.F ht⟩) hS.2.2 dX11_takeRow_75
            · skip
              rw [Int32.le_iff_toInt_le] at c_79
              refine lv_aload_n hx hb dX11_takeRow_31 rfl (lv_at hl 2 rfl) ?_
              refine lv_aload_n hx hb dX11_takeRow_32 rfl (lv_at hl 2 rfl) ?_
              refine tk_getP (D := (dC, dI)) (ci := 11) (v := .ref a_36) (C := RX11) (T := TX11) (N := 19) hx hb hU inlX11 hown hK hP mo0 hfo_78 rfl 0 (by decide) (hU _ wd_13) (fun _ h9 => h9) rfl dX11_takeRow_33 ?_
              refine lv_iload_n hx hb dX11_takeRow_36 rfl (lv_at hl 0 rfl) ?_
              obtain ⟨g_82, hfo_81, hbg_82⟩ := un_533 (hG _ ma_36) ka_36
              refine tk_ildP hx hb hK hP 0 ma_36 hfo_81 rfl (vp_in_iff.mpr (by constructor <;> omega)) dX11_takeRow_37 ?_
              refine lv_topi (fun x_83 ex_83 => ?_)
              have bx_83 : ((-2147483648) ≤ x_83.toInt ∧ x_83.toInt ≤ 2147483647) := ⟨i32_lo _, i32_hi _⟩
              refine lv_aload_n hx hb dX11_takeRow_38 rfl (lv_at hl 2 rfl) ?_
              refine tk_getP (D := (dC, dI)) (ci := 11) (v := .ref a_36) (C := RX11) (T := TX11) (N := 19) hx hb hU inlX11 hown hK hP mo0 hfo_78 rfl 0 (by decide) (hU _ wd_13) (fun _ h9 => h9) rfl dX11_takeRow_39 ?_
              refine lv_iload_n hx hb dX11_takeRow_42 rfl (lv_at hl 0 rfl) ?_
              refine lv_iconst (v := 1) hx hb dX11_takeRow_43 (by decide) ?_
              refine lv_iadd hx hb dX11_takeRow_44 ?_
              refine lv_topi (fun x_84 ex_84 => ?_)
              have hx_84 : x_84.toInt = y_75.toInt + 1 := by rw [ex_84, ad_I (by rw [ti_1]; omega) (by rw [ti_1]; omega), ti_1]
              have bx_84 : (1 ≤ x_84.toInt ∧ x_84.toInt ≤ 32) := by constructor <;> omega
              refine tk_ildP hx hb hK hP 0 ma_36 hfo_81 rfl (vp_in_iff.mpr (by constructor <;> omega)) dX11_takeRow_45 ?_
              refine lv_topi (fun x_85 ex_85 => ?_)
              have bx_85 : ((-2147483648) ≤ x_85.toInt ∧ x_85.toInt ≤ 2147483647) := ⟨i32_lo _, i32_hi _⟩
              refine tk_ViP (As := [.int x_83, .int x_85]) (rest := []) (n := 2) hx hb hml hown hU hN hZ (s_X11_pairOfSigns_k11 l (dC, dI) cI cL cZ cR cG cH Z kd L f_77 hG o0 mo0 ko0 x_83 x_85) wd_1075 wd_1076 wd_1077 wd_2 wd_1078 (by decide +kernel) ⟨Nat.le_of_ble_eq_true rfl, Nat.le_of_ble_eq_true rfl⟩ hK hP hD hS mo0 hfo_78 11 rfl rfl rfl hl.1 rfl (Nat.le_of_ble_eq_true rfl) dX11_takeRow_46 ⟨Nat.le_of_ble_eq_true rfl, Nat.le_of_ble_eq_true rfl⟩ (fun x_86 f_87 H locs hw hP hD hS => ?_)
              obtain ⟨rfl, bx_86⟩ := hw
              refine lv_istore_n (lv' := [(3, .int x_86), (2, .int y_75), (1, .int x_21), (0, .ref o0)]) hx hb dX11_takeRow_49 rfl hl (by decide) rfl (fun ls hl => ?_)
              refine lv_iload_n hx hb dX11_takeRow_50 rfl (lv_at hl 0 rfl) ?_
              refine lv_iconst (v := (-1)) hx hb dX11_takeRow_51 (by decide) ?_
              refine lv_icmp_ne (tgt := 57) hx hb dX11_takeRow_52 (by decide) (fun c_89 => ?_) (fun c_89 => ?_)
              · skip
                rw [← Int32.toInt_inj, ti_m1] at c_89
                refine lv_aload_n hx hb dX11_takeRow_57 rfl (lv_at hl 3 rfl) ?_
                refine tk_getP (D := (dC, dI)) (ci := 11) (v := .ref a_18) (C := RX11) (T := TX11) (N := 19) hx hb hU inlX11 hown hK hP mo0 hfo_78 rfl 16 (by decide) (hU _ wd_42) (fun _ h9 => h9) rfl dX11_takeRow_58 ?_
                refine lv_iload_n hx hb dX11_takeRow_61 rfl (lv_at hl 1 rfl) ?_
                refine lv_iconst (v := 2) hx hb dX11_takeRow_62 (by decide) ?_
                refine lv_idiv hx hb dX11_takeRow_63 (by decide) ?_
                refine lv_topi (fun x_90 ex_90 => ?_)
                have hx_90 : x_90.toInt = y_75.toInt / 2 := by rw [ex_90, dv_I (by omega) (by rw [ti_2]; omega), ti_2]
                have bx_90 : (0 ≤ x_90.toInt ∧ x_90.toInt ≤ 15) := by constructor <;> omega
                refine lv_iload_n hx hb dX11_takeRow_64 rfl (lv_at hl 0 rfl) ?_
                obtain ⟨g_92, hfo_91, hbg_92⟩ := un_540 (hG _ ma_18) ka_18
                refine tk_istP hx hb hK hP hD hS 0 ma_18 hfo_91 rfl (vp_in_iff.mpr (by constructor <;> omega)) dX11_takeRow_65 (fun H locs hP hD hS => ?_)
                obtain ⟨f_94, ef_94⟩ : ∃ y : Nat → va_E, y = va_up f_77 a_18 (.inl (cI, 16, .inl (upd g_92 (Int32.toNatClampNeg x_90) x_86))) := ⟨_, rfl⟩
                have hP : va_P (dC, dI) vwCl (va_pl L f_94) H := by rw [ef_94]; exact hP
                have hD : va_D (fun q => q ∈ L) (va_pl L f_94) := by rw [ef_94]; exact hD
                have hG : GI (okc cI cL cZ cR cG cH L kd) kd L f_94 := by rw [ef_94]; exact hG.set a_18 (mk_540 ka_18 ⟨_, rfl, okI_up hbg_92 (by constructor <;> omega) _⟩)
                have hfo_95 : f_94 o0 = .inr (11, [.ref a_36, .int v_37, .ref a_4, .ref a_5, .ref a_40, .ref a_7, .ref a_8, .ref a_9, .int v_10, .ref a_11, .ref a_12, .ref a_47, .int v_48, .int v_49, .ref a_50, .int v_51, .ref a_18, .ref a_53, .int v_54]) := by rw [ef_94, up_ne (kd_ne ka_18 ko0 (by decide))]; exact hfo_78
                have hfo_96 : f_94 a_36 = .inl (cI, 600, .inl g_82) := by rw [ef_94, up_ne (kd_ne ka_18 ka_36 (by decide))]; exact hfo_81
                have hfr0 : ∀ b, kd b ≠ 11 → kd b ≠ 540 → f_94 b = f b := fun b q11 q540 => (congrFun ef_94 b).trans ((up_ne (fun e9 => q540 (by rw [e9]; exact ka_18))).trans (hfr0 b q11 q540))
                have hfr11_8 : ∀ b, kd b = 11 → fldI (f_94 b) 8 = fldI (f b) 8 := fun b kb => (congrArg (fun x => fldI x 8) ((congrFun ef_94 b).trans (up_ne (kd_ne ka_18 kb (by decide))))).trans (hfr11_8 b kb)
                have hrr11_2 : ∀ b, kd b = 11 → fldR (f_94 b) 2 = fldR (f b) 2 := fun b kb => (congrArg (fun x => fldR x 2) ((congrFun ef_94 b).trans (up_ne (kd_ne ka_18 kb (by decide))))).trans (hrr11_2 b kb)
                have hrr11_3 : ∀ b, kd b = 11 → fldR (f_94 b) 3 = fldR (f b) 3 := fun b kb => (congrArg (fun x => fldR x 3) ((congrFun ef_94 b).trans (up_ne (kd_ne ka_18 kb (by decide))))).trans (hrr11_3 b kb)
                have hrr11_5 : ∀ b, kd b = 11 → fldR (f_94 b) 5 = fldR (f b) 5 := fun b kb => (congrArg (fun x => fldR x 5) ((congrFun ef_94 b).trans (up_ne (kd_ne ka_18 kb (by decide))))).trans (hrr11_5 b kb)
                have hrr11_6 : ∀ b, kd b = 11 → fldR (f_94 b) 6 = fldR (f b) 6 := fun b kb => (congrArg (fun x => fldR x 6) ((congrFun ef_94 b).trans (up_ne (kd_ne ka_18 kb (by decide))))).trans (hrr11_6 b kb)
                have hrr11_7 : ∀ b, kd b = 11 → fldR (f_94 b) 7 = fldR (f b) 7 := fun b kb => (congrArg (fun x => fldR x 7) ((congrFun ef_94 b).trans (up_ne (kd_ne ka_18 kb (by decide))))).trans (hrr11_7 b kb)
                have hrr11_9 : ∀ b, kd b = 11 → fldR (f_94 b) 9 = fldR (f b) 9 := fun b kb => (congrArg (fun x => fldR x 9) ((congrFun ef_94 b).trans (up_ne (kd_ne ka_18 kb (by decide))))).trans (hrr11_9 b kb)
                have hrr11_10 : ∀ b, kd b = 11 → fldR (f_94 b) 10 = fldR (f b) 10 := fun b kb => (congrArg (fun x => fldR x 10) ((congrFun ef_94 b).trans (up_ne (kd_ne ka_18 kb (by decide))))).trans (hrr11_10 b kb)
                have hrr11_16 : ∀ b, kd b = 11 → fldR (f_94 b) 16 = fldR (f b) 16 := fun b kb => (congrArg (fun x => fldR x 16) ((congrFun ef_94 b).trans (up_ne (kd_ne ka_18 kb (by decide))))).trans (hrr11_16 b kb)
                have hfo_97 : f_94 a_18 = .inl (cI, 16, .inl (upd g_92 (Int32.toNatClampNeg x_90) x_86)) := by rw [ef_94]; exact up_self
                obtain ⟨x_98, ex_98⟩ : ∃ y : Int32, y_75 + 2 = y := ⟨_, rfl⟩
                have hx_98 : x_98.toInt = y_75.toInt + 2 := by rw [← ex_98, ad_I (by rw [ti_2]; omega) (by rw [ti_2]; omega), ti_2]
                have bx_98 : (2 ≤ x_98.toInt ∧ x_98.toInt ≤ 33) := by constructor <;> omega
                refine lv_iinc (v := x_98) (lv' := [(2, .int x_98), (3, .int x_86), (1, .int x_21), (0, .ref o0)]) hx hb dX11_takeRow_66 hl (k := 1) rfl ex_98 (by decide) rfl (fun ls hl => ?_)
                refine lv_goto (tgt := 26) hx hb dX11_takeRow_69 (by decide) ?_
                exact ih_hloop_74 x_98 (by constructor <;> omega) f_94 hG _ _ hP hS hD hfr0 hfr11_8 hrr11_2 hrr11_3 hrr11_5 hrr11_6 hrr11_7 hrr11_9 hrr11_10 hrr11_16 hfo_95 (by omega) ls (lv_sub hl [0, 2, 3] rfl)
              · skip
                rw [← Int32.toInt_inj, ti_m1] at c_89
                refine lv_iconst (v := (-1)) hx hb dX11_takeRow_55 (by decide) ?_
                exact W.iret (v := (-1)) hx hb hr (fun t ht hW => ⟨⟨(-1), f_77, rfl, ⟨hG, (by decide), hfr0, hfr11_8, hrr11_2, hrr11_3, hrr11_5, hrr11_6, hrr11_7, hrr11_9, hrr11_10, hrr11_16, (by intro w1 z1 e1 d1; rw [hfo_1] at e1; rw [hfo_78] at d1; obtain rfl := Option.some.inj e1; obtain rfl := Option.some.inj d1; (try rw [ti_m1]) <;> omega)⟩, by rw [ht]; exact hP, va_K.moved hW.alike hK, pl_in hD⟩, hS.F ht⟩) hS.2.2 dX11_takeRow_56
        exact hloop_74 34 0 (by decide) f_22 hG _ _ hP hS hD hfr0 hfr11_8 hrr11_2 hrr11_3 hrr11_5 hrr11_6 hrr11_7 hrr11_9 hrr11_10 hrr11_16 hfo_35 (by (try rw [ti_0]) <;> omega) ls hl
      · skip
        rw [← Int32.toInt_inj, ti_0] at c_58
        refine lv_iconst (v := (-1)) hx hb dX11_takeRow_22 (by decide) ?_
        exact W.iret (v := (-1)) hx hb hr (fun t ht hW => ⟨⟨(-1), f_22, rfl, ⟨hG, (by decide), hfr0, hfr11_8, hrr11_2, hrr11_3, hrr11_5, hrr11_6, hrr11_7, hrr11_9, hrr11_10, hrr11_16, (by intro w1 z1 e1 d1; rw [hfo_1] at e1; rw [hfo_35] at d1; obtain rfl := Option.some.inj e1; obtain rfl := Option.some.inj d1; (try rw [ti_m1]) <;> omega)⟩, by rw [ht]; exact hP, va_K.moved hW.alike hK, pl_in hD⟩, hS.F ht⟩) hS.2.2 dX11_takeRow_23
