set_option maxHeartbeats 8000000 in
set_option maxRecDepth 100000 in
theorem s_X3_hasAllowedRowWith_k3 (l : Launch) (D : va_G) (cI cL cZ cR cG cH : ClassId) (Z : zT) (kd : Nat → Nat) (L : List Nat) (f : Nat → va_E) (hG : GI (okc cI cL cZ cR cG cH L kd) kd L f) (o0 : Nat) (mo0 : o0 ∈ L) (ko0 : kd o0 = 3) (p1 : Int32) (bp1 : (0 ≤ p1.toInt ∧ p1.toInt ≤ 19)) (p2 : Int32) (p3 : Int32) (hxtr0 : ∀ d9, fldR (f o0) 3 = some d9 → drel kd 1 521 522 f d9) : mPI l D cI cL cZ cR cG cH Z yX3_hasAllowedRowWith cX3_hasAllowedRowWith 4 (some .boolean) 15 518 [.ref o0, .int p1, .int p2, .int p3] L f (fun (r : Int32) (f9 : Nat → va_E) => GI (okc cI cL cZ cR cG cH L kd) kd L f9 ∧ (0 ≤ r.toInt ∧ r.toInt ≤ 1) ∧ (∀ b, kd b ≠ 1 → kd b ≠ 3 → kd b ≠ 10 → kd b ≠ 517 → kd b ≠ 518 → kd b ≠ 519 → kd b ≠ 520 → kd b ≠ 521 → kd b ≠ 522 → kd b ≠ 523 → kd b ≠ 524 → kd b ≠ 525 → kd b ≠ 526 → kd b ≠ 527 → f9 b = f b) ∧ (∀ b, kd b = 1 → fldR (f9 b) 0 = fldR (f b) 0) ∧ (∀ b, kd b = 1 → fldR (f9 b) 1 = fldR (f b) 1) ∧ (∀ b, kd b = 3 → fldR (f9 b) 0 = fldR (f b) 0) ∧ (∀ b, kd b = 3 → fldR (f9 b) 3 = fldR (f b) 3) ∧ (∀ d9, fldR (f9 o0) 3 = some d9 → drel kd 1 521 522 f9 d9)) := by
  obtain ⟨dC, dI⟩ := D
  refine Met.ofW (cc := cX3_hasAllowedRowWith) (maxL := 4) (ret := (some .boolean)) (by decide) rfl ?_
  intro p e s m args below meth c s₁ B hml hv
  obtain ⟨rfl, hP, hK, hD0, hN, hZ⟩ := hv
  have hx := B.exec
  have hb := B.bytes
  have hr := B.returns
  have hU : ∀ w ∈ wsU, w.before _ s = true := fun w h => atoms_spec (ws := wU yX3_hasAllowedRowWith cX3_hasAllowedRowWith 4 (some .boolean)) B.pre w (List.mem_cons_of_mem _ h)
  have hown : s.vm.findClass RX3 = some m.cls := findClass_of_methodNamed B.named
  have hlocks := B.notSynchronized
  have hD := pl_in hD0
  have hS : va_S (fun q => q ∈ L) s.heap s.heap [] := va_S.rf
  have hl := lv_entry ([.ref o0, .int p1, .int p2, .int p3]) (n := 4) (Nat.le_of_ble_eq_true rfl)
  rw [lg_entry_eq]
  generalize (lg_sl ([.ref o0, .int p1, .int p2, .int p3]) ++ List.replicate (4 - (lg_sl ([.ref o0, .int p1, .int p2, .int p3])).length) Slot.unset).toArray = ls at hl ⊢
  have hl : lv_has ls 4 [(0, .ref o0), (1, .int p1), (2, .int p2), (3, .int p3)] := hl
  have bp2 : ((-2147483648) ≤ p2.toInt ∧ p2.toInt ≤ 2147483647) := ⟨i32_lo _, i32_hi _⟩
  have bp3 : ((-2147483648) ≤ p3.toInt ∧ p3.toInt ≤ 2147483647) := ⟨i32_lo _, i32_hi _⟩
  have hfr0 : ∀ b, kd b ≠ 1 → kd b ≠ 3 → kd b ≠ 10 → kd b ≠ 517 → kd b ≠ 518 → kd b ≠ 519 → kd b ≠ 520 → kd b ≠ 521 → kd b ≠ 522 → kd b ≠ 523 → kd b ≠ 524 → kd b ≠ 525 → kd b ≠ 526 → kd b ≠ 527 → f b = f b := fun _ _ _ _ _ _ _ _ _ _ _ _ _ _ _ => rfl
  have hrr1_0 : ∀ b, kd b = 1 → fldR (f b) 0 = fldR (f b) 0 := fun _ _ => rfl
  have hrr1_1 : ∀ b, kd b = 1 → fldR (f b) 1 = fldR (f b) 1 := fun _ _ => rfl
  have hrr3_0 : ∀ b, kd b = 3 → fldR (f b) 0 = fldR (f b) 0 := fun _ _ => rfl
  have hrr3_3 : ∀ b, kd b = 3 → fldR (f b) 3 = fldR (f b) 3 := fun _ _ => rfl
  obtain ⟨a_2, a_3, a_4, a_5, a_6, v_7, v_8, v_9, v_10, v_11, v_12, v_13, a_14, a_15, a_16, v_17, a_18, a_19, hfo_1, ⟨ma_2, ka_2⟩, ⟨ma_3, ka_3⟩, ⟨ma_4, ka_4⟩, ⟨ma_5, ka_5⟩, ⟨ma_6, ka_6⟩, bv_7, bv_8, bv_9, ⟨ma_14, ka_14⟩, ⟨ma_15, ka_15⟩, ⟨ma_16, ka_16⟩, bv_17, ⟨ma_18, ka_18⟩, ⟨ma_19, ka_19⟩⟩ := un_3 (hG _ mo0) ko0
  have bv_10 : ((-2147483648) ≤ v_10.toInt ∧ v_10.toInt ≤ 2147483647) := ⟨i32_lo _, i32_hi _⟩
  have bv_11 : ((-2147483648) ≤ v_11.toInt ∧ v_11.toInt ≤ 2147483647) := ⟨i32_lo _, i32_hi _⟩
  have bv_12 : ((-2147483648) ≤ v_12.toInt ∧ v_12.toInt ≤ 2147483647) := ⟨i32_lo _, i32_hi _⟩
  have bv_13 : ((-2147483648) ≤ v_13.toInt ∧ v_13.toInt ≤ 2147483647) := ⟨i32_lo _, i32_hi _⟩
  have hT0 := hxtr0 a_5 (by rw [hfo_1]; rfl)
  refine lv_aload_n hx hb dX3_hasAllowedRowWith_0 rfl (lv_at hl 0 rfl) ?_
  refine lv_aload_n hx hb dX3_hasAllowedRowWith_1 rfl (lv_at hl 0 rfl) ?_
  refine tk_getP (D := (dC, dI)) (ci := 3) (v := .ref a_2) (C := RX3) (T := TX3) (N := 18) hx hb hU inlX3 hown hK hP mo0 hfo_1 rfl 0 (by decide) (hU _ wd_48) (fun _ h9 => h9) rfl dX3_hasAllowedRowWith_2 ?_
  obtain ⟨a_21, v_22, a_23, a_24, a_25, a_26, v_27, a_28, a_29, a_30, a_31, a_32, v_33, a_34, a_35, a_36, hfo_20, ⟨ma_21, ka_21⟩, bv_22, ⟨ma_23, ka_23⟩, ⟨ma_24, ka_24⟩, ⟨ma_25, ka_25⟩, ⟨ma_26, ka_26⟩, bv_27, ⟨ma_28, ka_28⟩, ⟨ma_29, ka_29⟩, ⟨ma_30, ka_30⟩, ⟨ma_31, ka_31⟩, ⟨ma_32, ka_32⟩, bv_33, ⟨ma_34, ka_34⟩, ⟨ma_35, ka_35⟩, ⟨ma_36, ka_36⟩⟩ := un_7 (hG _ ma_2) ka_2
  refine tk_getP (D := (dC, dI)) (ci := 7) (v := .ref a_25) (C := RX7) (T := TX7) (N := 16) hx hb hU inlX7 hown hK hP ma_2 hfo_20 rfl 4 (by decide) (hU _ wd_768) (fun _ h9 => h9) rfl dX3_hasAllowedRowWith_5 ?_
  refine lv_iload_n hx hb dX3_hasAllowedRowWith_8 rfl (lv_at hl 1 rfl) ?_
  obtain ⟨g_38, hfo_37, hbg_38⟩ := un_511 (hG _ ma_25) ka_25
  refine tk_ildP hx hb hK hP 0 ma_25 hfo_37 rfl (vp_in_iff.mpr (by constructor <;> omega)) dX3_hasAllowedRowWith_9 ?_
  refine lv_topi (fun x_39 ex_39 => ?_)
  have bx_39 : (0 ≤ x_39.toInt ∧ x_39.toInt ≤ 8) := by rw [ex_39]; exact hbg_38 _
  refine tk_ViP (As := [.int x_39]) (rest := []) (n := 1) hx hb hml hown hU hN hZ (s_X3_hasSign_k3 l (dC, dI) cI cL cZ cR cG cH Z kd L f hG o0 mo0 ko0 x_39) wd_744 wd_745 wd_746 wd_16 wd_747 (by decide +kernel) ⟨Nat.le_of_ble_eq_true rfl, Nat.le_of_ble_eq_true rfl⟩ hK hP hD hS mo0 hfo_1 3 rfl rfl rfl hl.1 rfl (Nat.le_of_ble_eq_true rfl) dX3_hasAllowedRowWith_10 ⟨Nat.le_of_ble_eq_true rfl, Nat.le_of_ble_eq_true rfl⟩ (fun x_40 f_41 H locs hw hP hD hS => ?_)
  obtain ⟨rfl, bx_40⟩ := hw
  refine lv_if_ne (tgt := 18) hx hb dX3_hasAllowedRowWith_13 (by decide) (fun c_43 => ?_) (fun c_43 => ?_)
  · skip
    rw [← Int32.toInt_inj, ti_0] at c_43
    refine lv_aload_n hx hb dX3_hasAllowedRowWith_18 rfl (lv_at hl 0 rfl) ?_
    refine lv_iload_n hx hb dX3_hasAllowedRowWith_19 rfl (lv_at hl 1 rfl) ?_
    refine tk_putP (D := (dC, dI)) (ci := 3) (v := .int p1) (ty := .int) (C := RX3) (T := TX3) (N := 18) hx hb hU inlX3 tyX3 tyX3_ok nmX3 hown hK hP hD hS mo0 hfo_1 rfl 11 (by decide) (hU _ wd_62) (fun _ h9 => h9) rfl (by decide +kernel) rfl rfl (Nat.le_of_ble_eq_true rfl) dX3_hasAllowedRowWith_20 (fun H locs hP hD hS => ?_)
    obtain ⟨f_45, ef_45⟩ : ∃ y : Nat → va_E, y = va_up f o0 (.inr (3, [.ref a_2, .ref a_3, .ref a_4, .ref a_5, .ref a_6, .int v_7, .int v_8, .int v_9, .int v_10, .int v_11, .int v_12, .int p1, .ref a_14, .ref a_15, .ref a_16, .int v_17, .ref a_18, .ref a_19])) := ⟨_, rfl⟩
    have hP : va_P (dC, dI) vwCl (va_pl L f_45) H := by rw [ef_45]; exact hP
    have hD : va_D (fun q => q ∈ L) (va_pl L f_45) := by rw [ef_45]; exact hD
    have hG : GI (okc cI cL cZ cR cG cH L kd) kd L f_45 := by rw [ef_45]; exact hG.set o0 (mk_3 ko0 ⟨a_2, a_3, a_4, a_5, a_6, v_7, v_8, v_9, v_10, v_11, v_12, p1, a_14, a_15, a_16, v_17, a_18, a_19, rfl, ⟨ma_2, ka_2⟩, ⟨ma_3, ka_3⟩, ⟨ma_4, ka_4⟩, ⟨ma_5, ka_5⟩, ⟨ma_6, ka_6⟩, (by constructor <;> omega), (by constructor <;> omega), (by constructor <;> omega), ⟨ma_14, ka_14⟩, ⟨ma_15, ka_15⟩, ⟨ma_16, ka_16⟩, (by constructor <;> omega), ⟨ma_18, ka_18⟩, ⟨ma_19, ka_19⟩⟩)
    have hfo_46 : f_45 a_2 = .inr (7, [.ref a_21, .int v_22, .ref a_23, .ref a_24, .ref a_25, .ref a_26, .int v_27, .ref a_28, .ref a_29, .ref a_30, .ref a_31, .ref a_32, .int v_33, .ref a_34, .ref a_35, .ref a_36]) := by rw [ef_45, up_ne (kd_ne ko0 ka_2 (by decide))]; exact hfo_20
    have hfo_47 : f_45 a_25 = .inl (cI, 20, .inl g_38) := by rw [ef_45, up_ne (kd_ne ko0 ka_25 (by decide))]; exact hfo_37
    have hfr0 : ∀ b, kd b ≠ 1 → kd b ≠ 3 → kd b ≠ 10 → kd b ≠ 517 → kd b ≠ 518 → kd b ≠ 519 → kd b ≠ 520 → kd b ≠ 521 → kd b ≠ 522 → kd b ≠ 523 → kd b ≠ 524 → kd b ≠ 525 → kd b ≠ 526 → kd b ≠ 527 → f_45 b = f b := fun b q1 q3 q10 q517 q518 q519 q520 q521 q522 q523 q524 q525 q526 q527 => (congrFun ef_45 b).trans ((up_ne (fun e9 => q3 (by rw [e9]; exact ko0))).trans (hfr0 b q1 q3 q10 q517 q518 q519 q520 q521 q522 q523 q524 q525 q526 q527))
    have hrr1_0 : ∀ b, kd b = 1 → fldR (f_45 b) 0 = fldR (f b) 0 := fun b kb => (congrArg (fun x => fldR x 0) ((congrFun ef_45 b).trans (up_ne (kd_ne ko0 kb (by decide))))).trans (hrr1_0 b kb)
    have hrr1_1 : ∀ b, kd b = 1 → fldR (f_45 b) 1 = fldR (f b) 1 := fun b kb => (congrArg (fun x => fldR x 1) ((congrFun ef_45 b).trans (up_ne (kd_ne ko0 kb (by decide))))).trans (hrr1_1 b kb)
    have hrr3_0 : ∀ b, kd b = 3 → fldR (f_45 b) 0 = fldR (f b) 0 := fun b kb => ((congrArg (fun x => fldR x 0) (congrFun ef_45 b)).trans (fr_up (by rw [hfo_1]; rfl) b)).trans (hrr3_0 b kb)
    have hrr3_3 : ∀ b, kd b = 3 → fldR (f_45 b) 3 = fldR (f b) 3 := fun b kb => ((congrArg (fun x => fldR x 3) (congrFun ef_45 b)).trans (fr_up (by rw [hfo_1]; rfl) b)).trans (hrr3_3 b kb)
    have hT0 : drel kd 1 521 522 f_45 a_5 := by rw [ef_45]; exact hT0.up ko0 (by decide) (by decide) (by decide)
    have hfo_48 : f_45 o0 = .inr (3, [.ref a_2, .ref a_3, .ref a_4, .ref a_5, .ref a_6, .int v_7, .int v_8, .int v_9, .int v_10, .int v_11, .int v_12, .int p1, .ref a_14, .ref a_15, .ref a_16, .int v_17, .ref a_18, .ref a_19]) := by rw [ef_45]; exact up_self
    refine lv_aload_n hx hb dX3_hasAllowedRowWith_23 rfl (lv_at hl 0 rfl) ?_
    refine lv_iload_n hx hb dX3_hasAllowedRowWith_24 rfl (lv_at hl 2 rfl) ?_
    refine lv_iload_n hx hb dX3_hasAllowedRowWith_25 rfl (lv_at hl 2 rfl) ?_
    refine lv_iload_n hx hb dX3_hasAllowedRowWith_26 rfl (lv_at hl 2 rfl) ?_
    refine lv_iload_n hx hb dX3_hasAllowedRowWith_27 rfl (lv_at hl 3 rfl) ?_
    refine tk_VvP (As := [.int p2, .int p2, .int p2, .int p3]) (rest := []) (n := 4) hx hb hml hown hU hN hZ (s_X3_list_k3 l (dC, dI) cI cL cZ cR cG cH Z kd L f_45 hG o0 mo0 ko0 p2 p2 p2 p3 (fun d9 h9 => by rw [hfo_48] at h9; obtain rfl := Option.some.inj h9; exact hT0)) wd_1161 wd_1162 wd_1163 wd_16 wd_1164 (by decide +kernel) ⟨Nat.le_of_ble_eq_true rfl, Nat.le_of_ble_eq_true rfl⟩ hK hP hD hS mo0 hfo_48 3 rfl rfl rfl hl.1 rfl (Nat.le_of_ble_eq_true rfl) dX3_hasAllowedRowWith_28 ⟨Nat.le_of_ble_eq_true rfl, Nat.le_of_ble_eq_true rfl⟩ (fun f_50 H locs hw hP hD hS => ?_)
    obtain ⟨hG, hkc_51, hrc_52, hrc_53, hrc_54, hrc_55, hTc_56⟩ := hw
    have hfo_58 : f_50 a_2 = .inr (7, [.ref a_21, .int v_22, .ref a_23, .ref a_24, .ref a_25, .ref a_26, .int v_27, .ref a_28, .ref a_29, .ref a_30, .ref a_31, .ref a_32, .int v_33, .ref a_34, .ref a_35, .ref a_36]) := by rw [hkc_51 a_2 (by rw [ka_2]; decide) (by rw [ka_2]; decide) (by rw [ka_2]; decide) (by rw [ka_2]; decide) (by rw [ka_2]; decide) (by rw [ka_2]; decide) (by rw [ka_2]; decide) (by rw [ka_2]; decide) (by rw [ka_2]; decide) (by rw [ka_2]; decide) (by rw [ka_2]; decide) (by rw [ka_2]; decide) (by rw [ka_2]; decide) (by rw [ka_2]; decide)]; exact hfo_46
    have hfo_59 : f_50 a_25 = .inl (cI, 20, .inl g_38) := by rw [hkc_51 a_25 (by rw [ka_25]; decide) (by rw [ka_25]; decide) (by rw [ka_25]; decide) (by rw [ka_25]; decide) (by rw [ka_25]; decide) (by rw [ka_25]; decide) (by rw [ka_25]; decide) (by rw [ka_25]; decide) (by rw [ka_25]; decide) (by rw [ka_25]; decide) (by rw [ka_25]; decide) (by rw [ka_25]; decide) (by rw [ka_25]; decide) (by rw [ka_25]; decide)]; exact hfo_47
    have hfr0 : ∀ b, kd b ≠ 1 → kd b ≠ 3 → kd b ≠ 10 → kd b ≠ 517 → kd b ≠ 518 → kd b ≠ 519 → kd b ≠ 520 → kd b ≠ 521 → kd b ≠ 522 → kd b ≠ 523 → kd b ≠ 524 → kd b ≠ 525 → kd b ≠ 526 → kd b ≠ 527 → f_50 b = f b := fun b q1 q3 q10 q517 q518 q519 q520 q521 q522 q523 q524 q525 q526 q527 => (hkc_51 b q1 q3 q10 q517 q518 q519 q520 q521 q522 q523 q524 q525 q526 q527).trans (hfr0 b q1 q3 q10 q517 q518 q519 q520 q521 q522 q523 q524 q525 q526 q527)
    have hrr1_0 : ∀ b, kd b = 1 → fldR (f_50 b) 0 = fldR (f b) 0 := fun b kb => (hrc_52 b kb).trans (hrr1_0 b kb)
    have hrr1_1 : ∀ b, kd b = 1 → fldR (f_50 b) 1 = fldR (f b) 1 := fun b kb => (hrc_53 b kb).trans (hrr1_1 b kb)
    have hrr3_0 : ∀ b, kd b = 3 → fldR (f_50 b) 0 = fldR (f b) 0 := fun b kb => (hrc_54 b kb).trans (hrr3_0 b kb)
    have hrr3_3 : ∀ b, kd b = 3 → fldR (f_50 b) 3 = fldR (f b) 3 := fun b kb => (hrc_55 b kb).trans (hrr3_3 b kb)
    obtain ⟨a_61, a_62, a_63, a_64, a_65, v_66, v_67, v_68, v_69, v_70, v_71, v_72, a_73, a_74, a_75, v_76, a_77, a_78, hfo_60, ⟨ma_61, ka_61⟩, ⟨ma_62, ka_62⟩, ⟨ma_63, ka_63⟩, ⟨ma_64, ka_64⟩, ⟨ma_65, ka_65⟩, bv_66, bv_67, bv_68, ⟨ma_73, ka_73⟩, ⟨ma_74, ka_74⟩, ⟨ma_75, ka_75⟩, bv_76, ⟨ma_77, ka_77⟩, ⟨ma_78, ka_78⟩⟩ := un_3 (hG _ mo0) ko0
    have bv_69 : ((-2147483648) ≤ v_69.toInt ∧ v_69.toInt ≤ 2147483647) := ⟨i32_lo _, i32_hi _⟩
    have bv_70 : ((-2147483648) ≤ v_70.toInt ∧ v_70.toInt ≤ 2147483647) := ⟨i32_lo _, i32_hi _⟩
    have bv_71 : ((-2147483648) ≤ v_71.toInt ∧ v_71.toInt ≤ 2147483647) := ⟨i32_lo _, i32_hi _⟩
    have bv_72 : ((-2147483648) ≤ v_72.toInt ∧ v_72.toInt ≤ 2147483647) := ⟨i32_lo _, i32_hi _⟩
    obtain rfl : a_2 = a_61 := by have hk9 := hrr3_0 o0 ko0; rw [hfo_60, hfo_1] at hk9; exact (Option.some.inj hk9).symm
    obtain rfl : a_5 = a_64 := by have hk9 := hrr3_3 o0 ko0; rw [hfo_60, hfo_1] at hk9; exact (Option.some.inj hk9).symm
    have hT_79 := hTc_56 a_5 (by rw [hfo_60]; rfl)
    refine lv_aload_n hx hb dX3_hasAllowedRowWith_31 rfl (lv_at hl 0 rfl) ?_
    refine tk_getP (D := (dC, dI)) (ci := 3) (v := .int v_76) (C := RX3) (T := TX3) (N := 18) hx hb hU inlX3 hown hK hP mo0 hfo_60 rfl 15 (by decide) (hU _ wd_796) (fun _ h9 => h9) rfl dX3_hasAllowedRowWith_32 ?_
    refine lv_if_le (tgt := 42) hx hb dX3_hasAllowedRowWith_35 (by decide) (fun c_80 => ?_) (fun c_80 => ?_)
    · skip
      rw [Int32.le_iff_toInt_le, ti_0] at c_80
      refine lv_iconst (v := 0) hx hb dX3_hasAllowedRowWith_42 (by decide) ?_
      exact W.zret (v := 0) (ty := .boolean) hx hb hr rfl (fun t ht hW => ⟨⟨0, f_50, rfl, ⟨hG, (by decide), hfr0, hrr1_0, hrr1_1, hrr3_0, hrr3_3, (fun d9 h9 => by rw [hfo_60] at h9; obtain rfl := Option.some.inj h9; exact hT_79)⟩, by rw [ht]; exact hP, va_K.moved hW.alike hK, pl_in hD⟩, hS.F ht⟩) hS.2.2 dX3_hasAllowedRowWith_43
    · skip
      rw [Int32.le_iff_toInt_le, ti_0] at c_80
      refine lv_iconst (v := 1) hx hb dX3_hasAllowedRowWith_38 (by decide) ?_
      refine lv_goto (tgt := 43) hx hb dX3_hasAllowedRowWith_39 (by decide) ?_
      exact W.zret (v := 1) (ty := .boolean) hx hb hr rfl (fun t ht hW => ⟨⟨1, f_50, rfl, ⟨hG, (by decide), hfr0, hrr1_0, hrr1_1, hrr3_0, hrr3_3, (fun d9 h9 => by rw [hfo_60] at h9; obtain rfl := Option.some.inj h9; exact hT_79)⟩, by rw [ht]; exact hP, va_K.moved hW.alike hK, pl_in hD⟩, hS.F ht⟩) hS.2.2 dX3_hasAllowedRowWith_43
  · skip
    rw [← Int32.toInt_inj, ti_0] at c_43
    refine lv_iconst (v := 0) hx hb dX3_hasAllowedRowWith_16 (by decide) ?_
    exact W.zret (v := 0) (ty := .boolean) hx hb hr rfl (fun t ht hW => ⟨⟨0, f, rfl, ⟨hG, (by decide), hfr0, hrr1_0, hrr1_1, hrr3_0, hrr3_3, (fun d9 h9 => by rw [hfo_1] at h9; obtain rfl := Option.some.inj h9; exact hT0)⟩, by rw [ht]; exact hP, va_K.moved hW.alike hK, pl_in hD⟩, hS.F ht⟩) hS.2.2 dX3_hasAllowedRowWith_17
set_option maxHeartbeats 8000000 in
set_option maxRecDepth 100000 in
theorem s_X3_tellsApart_k3 (l : Launch) (D : va_G) (cI cL cZ cR cG cH : ClassId) (Z : zT) (kd : Nat → Nat) (L : List Nat) (f : Nat → va_E) (hG : GI (okc cI cL cZ cR cG cH L kd) kd L f) (o0 : Nat) (mo0 : o0 ∈ L) (ko0 : kd o0 = 3) (p1 : Int32) (p2 : Int32) (p3 : Int32) (hxtr0 : ∀ d9, fldR (f o0) 3 = some d9 → drel kd 1 521 522 f d9) : mPI l D cI cL cZ cR cG cH Z yX3_tellsApart cX3_tellsApart 7 (some .boolean) 15 518 [.ref o0, .int p1, .int p2, .int p3] L f (fun (r : Int32) (f9 : Nat → va_E) => GI (okc cI cL cZ cR cG cH L kd) kd L f9 ∧ (0 ≤ r.toInt ∧ r.toInt ≤ 1) ∧ (∀ b, kd b ≠ 1 → kd b ≠ 3 → kd b ≠ 10 → kd b ≠ 517 → kd b ≠ 518 → kd b ≠ 519 → kd b ≠ 520 → kd b ≠ 521 → kd b ≠ 522 → kd b ≠ 523 → kd b ≠ 524 → kd b ≠ 525 → kd b ≠ 526 → kd b ≠ 527 → kd b ≠ 528 → f9 b = f b) ∧ (∀ b, kd b = 1 → fldR (f9 b) 0 = fldR (f b) 0) ∧ (∀ b, kd b = 1 → fldR (f9 b) 1 = fldR (f b) 1) ∧ (∀ b, kd b = 3 → fldR (f9 b) 0 = fldR (f b) 0) ∧ (∀ b, kd b = 3 → fldR (f9 b) 3 = fldR (f b) 3) ∧ (∀ d9, fldR (f9 o0) 3 = some d9 → drel kd 1 521 522 f9 d9)) := by
  obtain ⟨dC, dI⟩ := D
  refine Met.ofW (cc := cX3_tellsApart) (maxL := 7) (ret := (some .boolean)) (by decide) rfl ?_
  intro p e s m args below meth c s₁ B hml hv
  obtain ⟨rfl, hP, hK, hD0, hN, hZ⟩ := hv
  have hx := B.exec
  have hb := B.bytes
  have hr := B.returns
  have hU : ∀ w ∈ wsU, w.before _ s = true := fun w h => atoms_spec (ws := wU yX3_tellsApart cX3_tellsApart 7 (some .boolean)) B.pre w (List.mem_cons_of_mem _ h)
  have hown : s.vm.findClass RX3 = some m.cls := findClass_of_methodNamed B.named
  have hlocks := B.notSynchronized
  have hD := pl_in hD0
  have hS : va_S (fun q => q ∈ L) s.heap s.heap [] := va_S.rf
  have hl := lv_entry ([.ref o0, .int p1, .int p2, .int p3]) (n := 7) (Nat.le_of_ble_eq_true rfl)
  rw [lg_entry_eq]
  generalize (lg_sl ([.ref o0, .int p1, .int p2, .int p3]) ++ List.replicate (7 - (lg_sl ([.ref o0, .int p1, .int p2, .int p3])).length) Slot.unset).toArray = ls at hl ⊢
  have hl : lv_has ls 7 [(0, .ref o0), (1, .int p1), (2, .int p2), (3, .int p3)] := hl
  have bp1 : ((-2147483648) ≤ p1.toInt ∧ p1.toInt ≤ 2147483647) := ⟨i32_lo _, i32_hi _⟩
  have bp2 : ((-2147483648) ≤ p2.toInt ∧ p2.toInt ≤ 2147483647) := ⟨i32_lo _, i32_hi _⟩
  have bp3 : ((-2147483648) ≤ p3.toInt ∧ p3.toInt ≤ 2147483647) := ⟨i32_lo _, i32_hi _⟩
  have hfr0 : ∀ b, kd b ≠ 1 → kd b ≠ 3 → kd b ≠ 10 → kd b ≠ 517 → kd b ≠ 518 → kd b ≠ 519 → kd b ≠ 520 → kd b ≠ 521 → kd b ≠ 522 → kd b ≠ 523 → kd b ≠ 524 → kd b ≠ 525 → kd b ≠ 526 → kd b ≠ 527 → kd b ≠ 528 → f b = f b := fun _ _ _ _ _ _ _ _ _ _ _ _ _ _ _ _ => rfl
  have hrr1_0 : ∀ b, kd b = 1 → fldR (f b) 0 = fldR (f b) 0 := fun _ _ => rfl
  have hrr1_1 : ∀ b, kd b = 1 → fldR (f b) 1 = fldR (f b) 1 := fun _ _ => rfl
  have hrr3_0 : ∀ b, kd b = 3 → fldR (f b) 0 = fldR (f b) 0 := fun _ _ => rfl
  have hrr3_3 : ∀ b, kd b = 3 → fldR (f b) 3 = fldR (f b) 3 := fun _ _ => rfl
  obtain ⟨a_2, a_3, a_4, a_5, a_6, v_7, v_8, v_9, v_10, v_11, v_12, v_13, a_14, a_15, a_16, v_17, a_18, a_19, hfo_1, ⟨ma_2, ka_2⟩, ⟨ma_3, ka_3⟩, ⟨ma_4, ka_4⟩, ⟨ma_5, ka_5⟩, ⟨ma_6, ka_6⟩, bv_7, bv_8, bv_9, ⟨ma_14, ka_14⟩, ⟨ma_15, ka_15⟩, ⟨ma_16, ka_16⟩, bv_17, ⟨ma_18, ka_18⟩, ⟨ma_19, ka_19⟩⟩ := un_3 (hG _ mo0) ko0
  have bv_10 : ((-2147483648) ≤ v_10.toInt ∧ v_10.toInt ≤ 2147483647) := ⟨i32_lo _, i32_hi _⟩
  have bv_11 : ((-2147483648) ≤ v_11.toInt ∧ v_11.toInt ≤ 2147483647) := ⟨i32_lo _, i32_hi _⟩
  have bv_12 : ((-2147483648) ≤ v_12.toInt ∧ v_12.toInt ≤ 2147483647) := ⟨i32_lo _, i32_hi _⟩
  have bv_13 : ((-2147483648) ≤ v_13.toInt ∧ v_13.toInt ≤ 2147483647) := ⟨i32_lo _, i32_hi _⟩
  have hT0 := hxtr0 a_5 (by rw [hfo_1]; rfl)
  refine lv_aload_n hx hb dX3_tellsApart_0 rfl (lv_at hl 0 rfl) ?_
  refine lv_iload_n hx hb dX3_tellsApart_1 rfl (lv_at hl 1 rfl) ?_
  refine lv_iload_n hx hb dX3_tellsApart_2 rfl (lv_at hl 2 rfl) ?_
  refine lv_ixor hx hb dX3_tellsApart_3 ?_
  refine lv_topi (fun x_20 ex_20 => ?_)
  have bx_20 : ((-2147483648) ≤ x_20.toInt ∧ x_20.toInt ≤ 2147483647) := ⟨i32_lo _, i32_hi _⟩
  refine tk_ViP (As := [.int x_20]) (rest := []) (n := 1) hx hb hml hown hU hN hZ (s_X3_breakable_k3 l (dC, dI) cI cL cZ cR cG cH Z kd L f hG o0 mo0 ko0 x_20) wd_737 wd_738 wd_739 wd_16 wd_740 (by decide +kernel) ⟨Nat.le_of_ble_eq_true rfl, Nat.le_of_ble_eq_true rfl⟩ hK hP hD hS mo0 hfo_1 3 rfl rfl rfl hl.1 rfl (Nat.le_of_ble_eq_true rfl) dX3_tellsApart_4 ⟨Nat.le_of_ble_eq_true rfl, Nat.le_of_ble_eq_true rfl⟩ (fun x_21 f_22 H locs hw hP hD hS => ?_)
  obtain ⟨rfl, bx_21⟩ := hw
  refine lv_if_ne (tgt := 12) hx hb dX3_tellsApart_7 (by decide) (fun c_24 => ?_) (fun c_24 => ?_)
  · skip
    rw [← Int32.toInt_inj, ti_0] at c_24
    refine lv_aload_n hx hb dX3_tellsApart_12 rfl (lv_at hl 0 rfl) ?_
    refine lv_iload_n hx hb dX3_tellsApart_13 rfl (lv_at hl 1 rfl) ?_
    refine lv_iload_n hx hb dX3_tellsApart_14 rfl (lv_at hl 2 rfl) ?_
    refine lv_iload_n hx hb dX3_tellsApart_15 rfl (lv_at hl 1 rfl) ?_
    refine lv_iload_n hx hb dX3_tellsApart_16 rfl (lv_at hl 2 rfl) ?_
    refine lv_ior hx hb dX3_tellsApart_17 ?_
    refine lv_topi (fun x_25 ex_25 => ?_)
    have bx_25 : ((-2147483648) ≤ x_25.toInt ∧ x_25.toInt ≤ 2147483647) := ⟨i32_lo _, i32_hi _⟩
    refine lv_iload_n hx hb dX3_tellsApart_18 rfl (lv_at hl 3 rfl) ?_
    refine tk_VvP (As := [.int p1, .int p2, .int x_25, .int p3]) (rest := []) (n := 4) hx hb hml hown hU hN hZ (s_X3_list_k3 l (dC, dI) cI cL cZ cR cG cH Z kd L f hG o0 mo0 ko0 p1 p2 x_25 p3 (fun d9 h9 => by rw [hfo_1] at h9; obtain rfl := Option.some.inj h9; exact hT0)) wd_1161 wd_1162 wd_1163 wd_16 wd_1164 (by decide +kernel) ⟨Nat.le_of_ble_eq_true rfl, Nat.le_of_ble_eq_true rfl⟩ hK hP hD hS mo0 hfo_1 3 rfl rfl rfl hl.1 rfl (Nat.le_of_ble_eq_true rfl) dX3_tellsApart_19 ⟨Nat.le_of_ble_eq_true rfl, Nat.le_of_ble_eq_true rfl⟩ (fun f_27 H locs hw hP hD hS => ?_)
    obtain ⟨hG, hkc_28, hrc_29, hrc_30, hrc_31, hrc_32, hTc_33⟩ := hw
    have hfr0 : ∀ b, kd b ≠ 1 → kd b ≠ 3 → kd b ≠ 10 → kd b ≠ 517 → kd b ≠ 518 → kd b ≠ 519 → kd b ≠ 520 → kd b ≠ 521 → kd b ≠ 522 → kd b ≠ 523 → kd b ≠ 524 → kd b ≠ 525 → kd b ≠ 526 → kd b ≠ 527 → kd b ≠ 528 → f_27 b = f b := fun b q1 q3 q10 q517 q518 q519 q520 q521 q522 q523 q524 q525 q526 q527 q528 => (hkc_28 b q1 q3 q10 q517 q518 q519 q520 q521 q522 q523 q524 q525 q526 q527).trans (hfr0 b q1 q3 q10 q517 q518 q519 q520 q521 q522 q523 q524 q525 q526 q527 q528)
    have hrr1_0 : ∀ b, kd b = 1 → fldR (f_27 b) 0 = fldR (f b) 0 := fun b kb => (hrc_29 b kb).trans (hrr1_0 b kb)
    have hrr1_1 : ∀ b, kd b = 1 → fldR (f_27 b) 1 = fldR (f b) 1 := fun b kb => (hrc_30 b kb).trans (hrr1_1 b kb)
    have hrr3_0 : ∀ b, kd b = 3 → fldR (f_27 b) 0 = fldR (f b) 0 := fun b kb => (hrc_31 b kb).trans (hrr3_0 b kb)
    have hrr3_3 : ∀ b, kd b = 3 → fldR (f_27 b) 3 = fldR (f b) 3 := fun b kb => (hrc_32 b kb).trans (hrr3_3 b kb)
    obtain ⟨a_36, a_37, a_38, a_39, a_40, v_41, v_42, v_43, v_44, v_45, v_46, v_47, a_48, a_49, a_50, v_51, a_52, a_53, hfo_35, ⟨ma_36, ka_36⟩, ⟨ma_37, ka_37⟩, ⟨ma_38, ka_38⟩, ⟨ma_39, ka_39⟩, ⟨ma_40, ka_40⟩, bv_41, bv_42, bv_43, ⟨ma_48, ka_48⟩, ⟨ma_49, ka_49⟩, ⟨ma_50, ka_50⟩, bv_51, ⟨ma_52, ka_52⟩, ⟨ma_53, ka_53⟩⟩ := un_3 (hG _ mo0) ko0
    have bv_44 : ((-2147483648) ≤ v_44.toInt ∧ v_44.toInt ≤ 2147483647) := ⟨i32_lo _, i32_hi _⟩
    have bv_45 : ((-2147483648) ≤ v_45.toInt ∧ v_45.toInt ≤ 2147483647) := ⟨i32_lo _, i32_hi _⟩
    have bv_46 : ((-2147483648) ≤ v_46.toInt ∧ v_46.toInt ≤ 2147483647) := ⟨i32_lo _, i32_hi _⟩
    have bv_47 : ((-2147483648) ≤ v_47.toInt ∧ v_47.toInt ≤ 2147483647) := ⟨i32_lo _, i32_hi _⟩
    obtain rfl : a_2 = a_36 := by have hk9 := hrr3_0 o0 ko0; rw [hfo_35, hfo_1] at hk9; exact (Option.some.inj hk9).symm
    obtain rfl : a_5 = a_39 := by have hk9 := hrr3_3 o0 ko0; rw [hfo_35, hfo_1] at hk9; exact (Option.some.inj hk9).symm
    have hT_54 := hTc_33 a_5 (by rw [hfo_35]; rfl)
    refine lv_iconst (v := 0) hx hb dX3_tellsApart_22 (by decide) ?_
    refine lv_istore (lv' := [(4, .int 0), (0, .ref o0), (1, .int p1), (2, .int p2), (3, .int p3)]) hx hb dX3_tellsApart_23 hl (by decide) rfl (fun ls hl => ?_)
    have hloop_70 : ∀ (n : Nat), ∀ (y_71 : Int32), (0 ≤ y_71.toInt ∧ y_71.toInt ≤ 1024) → ∀ (f_73 : Nat → va_E), GI (okc cI cL cZ cR cG cH L kd) kd L f_73 → ∀ (H : Heap) (locs : List Loc), va_P (dC, dI) vwCl (va_pl L f_73) H → va_S (fun q => q ∈ L) s.heap H locs → va_D (fun q => q ∈ L) (va_pl L f_73) → (∀ b, kd b ≠ 1 → kd b ≠ 3 → kd b ≠ 10 → kd b ≠ 517 → kd b ≠ 518 → kd b ≠ 519 → kd b ≠ 520 → kd b ≠ 521 → kd b ≠ 522 → kd b ≠ 523 → kd b ≠ 524 → kd b ≠ 525 → kd b ≠ 526 → kd b ≠ 527 → kd b ≠ 528 → f_73 b = f b) → (∀ b, kd b = 1 → fldR (f_73 b) 0 = fldR (f b) 0) → (∀ b, kd b = 1 → fldR (f_73 b) 1 = fldR (f b) 1) → (∀ b, kd b = 3 → fldR (f_73 b) 0 = fldR (f b) 0) → (∀ b, kd b = 3 → fldR (f_73 b) 3 = fldR (f b) 3) → (f_73 o0 = .inr (3, [.ref a_2, .ref a_37, .ref a_38, .ref a_5, .ref a_40, .int v_41, .int v_42, .int v_43, .int v_44, .int v_45, .int v_46, .int v_47, .ref a_48, .ref a_49, .ref a_50, .int v_51, .ref a_52, .ref a_53])) → drel kd 1 521 522 f_73 a_5 → 1024 - y_71.toInt < (n : Int) → ∀ (ls : Array Slot), lv_has ls 7 [(4, .int y_71), (0, .ref o0), (1, .int p1), (2, .int p2), (3, .int p3)] → W p l e (headSpec (wU yX3_tellsApart cX3_tellsApart 7 (some .boolean)) { frames := 15, cells := 0, slots := 0, locals := 518 }).room s m [.ref o0, .int p1, .int p2, .int p3].toArray below meth c H locs 0 0 (MQ below (va_Qi (fun (r : Int32) (f9 : Nat → va_E) => GI (okc cI cL cZ cR cG cH L kd) kd L f9 ∧ (0 ≤ r.toInt ∧ r.toInt ≤ 1) ∧ (∀ b, kd b ≠ 1 → kd b ≠ 3 → kd b ≠ 10 → kd b ≠ 517 → kd b ≠ 518 → kd b ≠ 519 → kd b ≠ 520 → kd b ≠ 521 → kd b ≠ 522 → kd b ≠ 523 → kd b ≠ 524 → kd b ≠ 525 → kd b ≠ 526 → kd b ≠ 527 → kd b ≠ 528 → f9 b = f b) ∧ (∀ b, kd b = 1 → fldR (f9 b) 0 = fldR (f b) 0) ∧ (∀ b, kd b = 1 → fldR (f9 b) 1 = fldR (f b) 1) ∧ (∀ b, kd b = 3 → fldR (f9 b) 0 = fldR (f b) 0) ∧ (∀ b, kd b = 3 → fldR (f9 b) 3 = fldR (f b) 3) ∧ (∀ d9, fldR (f9 o0) 3 = some d9 → drel kd 1 521 522 f9 d9)) (qP (dC, dI) cI cL cZ cR cG cH L) (fun q => q ∈ L)) [.ref o0, .int p1, .int p2, .int p3].toArray s 0 0 (fun q => q ∈ L)) (F0 m 25 ls []) := by
      intro n
      induction n with
      | zero => intro y_71 by_71 f_73 hG H locs hP hS hD hfr0 hrr1_0 hrr1_1 hrr3_0 hrr3_3 hfo_74 hT_54 hmuhloop_70 ls hl; exfalso; omega
      | succ n ih_hloop_70 =>
        intro y_71 by_71 f_73 hG H locs hP hS hD hfr0 hrr1_0 hrr1_1 hrr3_0 hrr3_3 hfo_74 hT_54 hmuhloop_70 ls hl
        refine lv_iload hx hb dX3_tellsApart_25 (lv_at hl 0 rfl) ?_
        refine lv_aload_n hx hb dX3_tellsApart_27 rfl (lv_at hl 1 rfl) ?_
        refine tk_getP (D := (dC, dI)) (ci := 3) (v := .int v_51) (C := RX3) (T := TX3) (N := 18) hx hb hU inlX3 hown hK hP mo0 hfo_74 rfl 15 (by decide) (hU _ wd_796) (fun _ h9 => h9) rfl dX3_tellsApart_28 ?_
        refine lv_icmp_ge (tgt := 97) hx hb dX3_tellsApart_31 (by decide) (fun c_75 => ?_) (fun c_75 => ?_)
        · skip
          rw [Int32.le_iff_toInt_le] at c_75
          refine lv_iconst (v := 0) hx hb dX3_tellsApart_97 (by decide) ?_
          refine lv_istore (lv' := [(4, .int 0), (0, .ref o0), (1, .int p1), (2, .int p2), (3, .int p3)]) hx hb dX3_tellsApart_98 hl (by decide) rfl (fun ls hl => ?_)
          refine lv_iconst (v := 0) hx hb dX3_tellsApart_100 (by decide) ?_
          refine lv_istore (lv' := [(5, .int 0), (4, .int 0), (0, .ref o0), (1, .int p1), (2, .int p2), (3, .int p3)]) hx hb dX3_tellsApart_101 hl (by decide) rfl (fun ls hl => ?_)
          have hloop_94 : ∀ (n : Nat), ∀ (y_95 : Int32), (0 ≤ y_95.toInt ∧ y_95.toInt ≤ 1024) → ∀ (y_96 : Int32), (0 ≤ y_96.toInt ∧ y_96.toInt ≤ 1) → ∀ (H : Heap) (locs : List Loc), va_P (dC, dI) vwCl (va_pl L f_73) H → va_S (fun q => q ∈ L) s.heap H locs → 1024 - y_95.toInt < (n : Int) → ∀ (ls : Array Slot), lv_has ls 7 [(5, .int y_95), (4, .int y_96), (0, .ref o0), (1, .int p1), (2, .int p2), (3, .int p3)] → W p l e (headSpec (wU yX3_tellsApart cX3_tellsApart 7 (some .boolean)) { frames := 15, cells := 0, slots := 0, locals := 518 }).room s m [.ref o0, .int p1, .int p2, .int p3].toArray below meth c H locs 0 0 (MQ below (va_Qi (fun (r : Int32) (f9 : Nat → va_E) => GI (okc cI cL cZ cR cG cH L kd) kd L f9 ∧ (0 ≤ r.toInt ∧ r.toInt ≤ 1) ∧ (∀ b, kd b ≠ 1 → kd b ≠ 3 → kd b ≠ 10 → kd b ≠ 517 → kd b ≠ 518 → kd b ≠ 519 → kd b ≠ 520 → kd b ≠ 521 → kd b ≠ 522 → kd b ≠ 523 → kd b ≠ 524 → kd b ≠ 525 → kd b ≠ 526 → kd b ≠ 527 → kd b ≠ 528 → f9 b = f b) ∧ (∀ b, kd b = 1 → fldR (f9 b) 0 = fldR (f b) 0) ∧ (∀ b, kd b = 1 → fldR (f9 b) 1 = fldR (f b) 1) ∧ (∀ b, kd b = 3 → fldR (f9 b) 0 = fldR (f b) 0) ∧ (∀ b, kd b = 3 → fldR (f9 b) 3 = fldR (f b) 3) ∧ (∀ d9, fldR (f9 o0) 3 = some d9 → drel kd 1 521 522 f9 d9)) (qP (dC, dI) cI cL cZ cR cG cH L) (fun q => q ∈ L)) [.ref o0, .int p1, .int p2, .int p3].toArray s 0 0 (fun q => q ∈ L)) (F0 m 103 ls []) := by
            intro n
            induction n with
            | zero => intro y_95 by_95 y_96 by_96 H locs hP hS hmuhloop_94 ls hl; exfalso; omega
            | succ n ih_hloop_94 =>
              intro y_95 by_95 y_96 by_96 H locs hP hS hmuhloop_94 ls hl
              refine lv_iload hx hb dX3_tellsApart_103 (lv_at hl 0 rfl) ?_
              refine lv_aload_n hx hb dX3_tellsApart_105 rfl (lv_at hl 2 rfl) ?_
              refine tk_getP (D := (dC, dI)) (ci := 3) (v := .int v_51) (C := RX3) (T := TX3) (N := 18) hx hb hU inlX3 hown hK hP mo0 hfo_74 rfl 15 (by decide) (hU _ wd_796) (fun _ h9 => h9) rfl dX3_tellsApart_106 ?_
              refine lv_icmp_ge (tgt := 153) hx hb dX3_tellsApart_109 (by decide) (fun c_98 => ?_) (fun c_98 => ?_)
              · skip
                rw [Int32.le_iff_toInt_le] at c_98
                refine lv_aload_n hx hb dX3_tellsApart_153 rfl (lv_at hl 2 rfl) ?_
                refine tk_VvP (As := []) (rest := []) (n := 0) hx hb hml hown hU hN hZ (s_X3_clearMarks_k3 l (dC, dI) cI cL cZ cR cG cH Z kd L f_73 hG o0 mo0 ko0) wd_1326 wd_1327 wd_1328 wd_16 wd_1329 (by decide +kernel) ⟨Nat.le_of_ble_eq_true rfl, Nat.le_of_ble_eq_true rfl⟩ hK hP hD hS mo0 hfo_74 3 rfl rfl rfl hl.1 rfl (Nat.le_of_ble_eq_true rfl) dX3_tellsApart_154 ⟨Nat.le_of_ble_eq_true rfl, Nat.le_of_ble_eq_true rfl⟩ (fun f_100 H locs hw hP hD hS => ?_)
                obtain ⟨hG, hkc_101⟩ := hw
                have hfo_103 : f_100 o0 = .inr (3, [.ref a_2, .ref a_37, .ref a_38, .ref a_5, .ref a_40, .int v_41, .int v_42, .int v_43, .int v_44, .int v_45, .int v_46, .int v_47, .ref a_48, .ref a_49, .ref a_50, .int v_51, .ref a_52, .ref a_53]) := by rw [hkc_101 o0 (by rw [ko0]; decide)]; exact hfo_74
                have hfr0 : ∀ b, kd b ≠ 1 → kd b ≠ 3 → kd b ≠ 10 → kd b ≠ 517 → kd b ≠ 518 → kd b ≠ 519 → kd b ≠ 520 → kd b ≠ 521 → kd b ≠ 522 → kd b ≠ 523 → kd b ≠ 524 → kd b ≠ 525 → kd b ≠ 526 → kd b ≠ 527 → kd b ≠ 528 → f_100 b = f b := fun b q1 q3 q10 q517 q518 q519 q520 q521 q522 q523 q524 q525 q526 q527 q528 => (hkc_101 b q528).trans (hfr0 b q1 q3 q10 q517 q518 q519 q520 q521 q522 q523 q524 q525 q526 q527 q528)
                have hrr1_0 : ∀ b, kd b = 1 → fldR (f_100 b) 0 = fldR (f b) 0 := fun b kb => (congrArg (fun x => fldR x 0) (hkc_101 b (by rw [kb]; decide))).trans (hrr1_0 b kb)
                have hrr1_1 : ∀ b, kd b = 1 → fldR (f_100 b) 1 = fldR (f b) 1 := fun b kb => (congrArg (fun x => fldR x 1) (hkc_101 b (by rw [kb]; decide))).trans (hrr1_1 b kb)
                have hrr3_0 : ∀ b, kd b = 3 → fldR (f_100 b) 0 = fldR (f b) 0 := fun b kb => (congrArg (fun x => fldR x 0) (hkc_101 b (by rw [kb]; decide))).trans (hrr3_0 b kb)
                have hrr3_3 : ∀ b, kd b = 3 → fldR (f_100 b) 3 = fldR (f b) 3 := fun b kb => (congrArg (fun x => fldR x 3) (hkc_101 b (by rw [kb]; decide))).trans (hrr3_3 b kb)
                have hT_54 : drel kd 1 521 522 f_100 a_5 := hT_54.keep (fun b q => congrArg (fun x => fldI x 5) (hkc_101 b (by rw [q]; decide))) (fun b q => congrArg (fun x => fldR x 0) (hkc_101 b (by rw [q]; decide))) (fun b q => congrArg (fun x => fldR x 1) (hkc_101 b (by rw [q]; decide))) (fun b q => hkc_101 b (by rw [q]; decide)) (fun b q => hkc_101 b (by rw [q]; decide))
                refine lv_iload hx hb dX3_tellsApart_157 (lv_at hl 1 rfl) ?_
                exact W.zret (v := y_96) (ty := .boolean) hx hb hr (zb_n (by constructor <;> omega)) (fun t ht hW => ⟨⟨y_96, f_100, rfl, ⟨hG, (by constructor <;> omega), hfr0, hrr1_0, hrr1_1, hrr3_0, hrr3_3, (fun d9 h9 => by rw [hfo_103] at h9; obtain rfl := Option.some.inj h9; exact hT_54)⟩, by rw [ht]; exact hP, va_K.moved hW.alike hK, pl_in hD⟩, hS.F ht⟩) hS.2.2 dX3_tellsApart_159
              · skip
                rw [Int32.le_iff_toInt_le] at c_98
                refine lv_aload_n hx hb dX3_tellsApart_112 rfl (lv_at hl 2 rfl) ?_
                refine tk_getP (D := (dC, dI)) (ci := 3) (v := .ref a_52) (C := RX3) (T := TX3) (N := 18) hx hb hU inlX3 hown hK hP mo0 hfo_74 rfl 16 (by decide) (hU _ wd_66) (fun _ h9 => h9) rfl dX3_tellsApart_113 ?_
                refine lv_aload_n hx hb dX3_tellsApart_116 rfl (lv_at hl 2 rfl) ?_
                refine lv_iload hx hb dX3_tellsApart_117 (lv_at hl 0 rfl) ?_
                refine tk_ViP (As := [.int y_95]) (rest := [.ref a_52]) (n := 1) hx hb hml hown hU hN hZ (s_X3_shortCode_k3 l (dC, dI) cI cL cZ cR cG cH Z kd L f_73 hG o0 mo0 ko0 y_95 (by constructor <;> omega)) wd_1321 wd_1322 wd_1323 wd_16 wd_1324 (by decide +kernel) ⟨Nat.le_of_ble_eq_true rfl, Nat.le_of_ble_eq_true rfl⟩ hK hP hD hS mo0 hfo_74 3 rfl rfl rfl hl.1 rfl (Nat.le_of_ble_eq_true rfl) dX3_tellsApart_119 ⟨Nat.le_of_ble_eq_true rfl, Nat.le_of_ble_eq_true rfl⟩ (fun x_104 f_105 H locs hw hP hD hS => ?_)
                obtain ⟨rfl, bx_104⟩ := hw
                obtain ⟨g_108, hfo_107, hbg_108⟩ := un_528 (hG _ ma_52) ka_52
                refine tk_ildP hx hb hK hP 0 ma_52 hfo_107 rfl (vp_in_iff.mpr (by constructor <;> omega)) dX3_tellsApart_122 ?_
                refine lv_topi (fun x_109 ex_109 => ?_)
                have bx_109 : ((-2147483648) ≤ x_109.toInt ∧ x_109.toInt ≤ 2147483647) := ⟨i32_lo _, i32_hi _⟩
                refine lv_istore (lv' := [(6, .int x_109), (5, .int y_95), (4, .int y_96), (0, .ref o0), (1, .int p1), (2, .int p2), (3, .int p3)]) hx hb dX3_tellsApart_123 hl (by decide) rfl (fun ls hl => ?_)
                refine lv_iload hx hb dX3_tellsApart_125 (lv_at hl 2 rfl) ?_
                refine lv_iload hx hb dX3_tellsApart_127 (lv_at hl 0 rfl) ?_
                refine lv_iconst (v := 1) hx hb dX3_tellsApart_129 (by decide) ?_
                have hcut_111 : ∀ (y_110 : Int32), (0 ≤ y_110.toInt ∧ y_110.toInt ≤ 1) → ∀ (ls : Array Slot), lv_has ls 7 [(6, .int x_109), (5, .int y_95), (4, .int y_96), (0, .ref o0), (1, .int p1), (2, .int p2), (3, .int p3)] → W p l e (headSpec (wU yX3_tellsApart cX3_tellsApart 7 (some .boolean)) { frames := 15, cells := 0, slots := 0, locals := 518 }).room s m [.ref o0, .int p1, .int p2, .int p3].toArray below meth c H locs 0 0 (MQ below (va_Qi (fun (r : Int32) (f9 : Nat → va_E) => GI (okc cI cL cZ cR cG cH L kd) kd L f9 ∧ (0 ≤ r.toInt ∧ r.toInt ≤ 1) ∧ (∀ b, kd b ≠ 1 → kd b ≠ 3 → kd b ≠ 10 → kd b ≠ 517 → kd b ≠ 518 → kd b ≠ 519 → kd b ≠ 520 → kd b ≠ 521 → kd b ≠ 522 → kd b ≠ 523 → kd b ≠ 524 → kd b ≠ 525 → kd b ≠ 526 → kd b ≠ 527 → kd b ≠ 528 → f9 b = f b) ∧ (∀ b, kd b = 1 → fldR (f9 b) 0 = fldR (f b) 0) ∧ (∀ b, kd b = 1 → fldR (f9 b) 1 = fldR (f b) 1) ∧ (∀ b, kd b = 3 → fldR (f9 b) 0 = fldR (f b) 0) ∧ (∀ b, kd b = 3 → fldR (f9 b) 3 = fldR (f b) 3) ∧ (∀ d9, fldR (f9 o0) 3 = some d9 → drel kd 1 521 522 f9 d9)) (qP (dC, dI) cI cL cZ cR cG cH L) (fun q => q ∈ L)) [.ref o0, .int p1, .int p2, .int p3].toArray s 0 0 (fun q => q ∈ L)) (F0 m 144 ls [.int y_110, .int y_96]) := by
                  intro y_110 by_110 ls hl
                  refine lv_ior hx hb dX3_tellsApart_144 ?_
                  refine lv_topi (fun x_112 ex_112 => ?_)
                  have bx_112 : (0 ≤ x_112.toInt ∧ x_112.toInt ≤ 1) := by rw [ex_112]; exact or_K 1 (by decide) (by constructor <;> omega) (by constructor <;> omega)
                  refine lv_istore (lv' := [(4, .int x_112), (6, .int x_109), (5, .int y_95), (0, .ref o0), (1, .int p1), (2, .int p2), (3, .int p3)]) hx hb dX3_tellsApart_145 hl (by decide) rfl (fun ls hl => ?_)
                  obtain ⟨x_113, ex_113⟩ : ∃ y : Int32, y_95 + 1 = y := ⟨_, rfl⟩
                  have hx_113 : x_113.toInt = y_95.toInt + 1 := by rw [← ex_113, ad_I (by rw [ti_1]; omega) (by rw [ti_1]; omega), ti_1]
                  have bx_113 : (1 ≤ x_113.toInt ∧ x_113.toInt ≤ 1024) := by constructor <;> omega
                  refine lv_iinc (v := x_113) (lv' := [(5, .int x_113), (4, .int x_112), (6, .int x_109), (0, .ref o0), (1, .int p1), (2, .int p2), (3, .int p3)]) hx hb dX3_tellsApart_147 hl (k := 2) rfl ex_113 (by decide) rfl (fun ls hl => ?_)
                  refine lv_goto (tgt := 103) hx hb dX3_tellsApart_150 (by decide) ?_
                  exact ih_hloop_94 x_113 (by constructor <;> omega) x_112 (by constructor <;> omega) _ _ hP hS (by omega) ls (lv_sub hl [0, 1, 3, 4, 5, 6] rfl)
                refine lv_icmp_eq (tgt := 139) hx hb dX3_tellsApart_130 (by decide) (fun c_114 => ?_) (fun c_114 => ?_)
                · skip
                  rw [← Int32.toInt_inj, ti_1] at c_114
                  refine lv_iconst (v := 1) hx hb dX3_tellsApart_139 (by decide) ?_
                  refine lv_goto (tgt := 144) hx hb dX3_tellsApart_140 (by decide) ?_
                  exact hcut_111 1 (by decide) ls (lv_sub hl [0, 1, 2, 3, 4, 5, 6] rfl)
                · skip
                  rw [← Int32.toInt_inj, ti_1] at c_114
                  refine lv_iload hx hb dX3_tellsApart_133 (lv_at hl 0 rfl) ?_
                  refine lv_iconst (v := 2) hx hb dX3_tellsApart_135 (by decide) ?_
                  refine lv_icmp_ne (tgt := 143) hx hb dX3_tellsApart_136 (by decide) (fun c_115 => ?_) (fun c_115 => ?_)
                  · skip
                    rw [← Int32.toInt_inj, ti_2] at c_115
                    refine lv_iconst (v := 0) hx hb dX3_tellsApart_143 (by decide) ?_
                    exact hcut_111 0 (by decide) ls (lv_sub hl [0, 1, 2, 3, 4, 5, 6] rfl)
                  · skip
                    rw [← Int32.toInt_inj, ti_2] at c_115
                    refine lv_iconst (v := 1) hx hb dX3_tellsApart_139 (by decide) ?_
                    refine lv_goto (tgt := 144) hx hb dX3_tellsApart_140 (by decide) ?_
                    exact hcut_111 1 (by decide) ls (lv_sub hl [0, 1, 2, 3, 4, 5, 6] rfl)
          exact hloop_94 1025 0 (by decide) 0 (by decide) _ _ hP hS (by (try rw [ti_0]) <;> omega) ls hl
        · skip
          rw [Int32.le_iff_toInt_le] at c_75
          refine lv_aload_n hx hb dX3_tellsApart_34 rfl (lv_at hl 1 rfl) ?_
          refine tk_getP (D := (dC, dI)) (ci := 3) (v := .ref a_50) (C := RX3) (T := TX3) (N := 18) hx hb hU inlX3 hown hK hP mo0 hfo_74 rfl 14 (by decide) (hU _ wd_65) (fun _ h9 => h9) rfl dX3_tellsApart_35 ?_
          refine lv_iload hx hb dX3_tellsApart_38 (lv_at hl 0 rfl) ?_
          obtain ⟨g_117, hfo_116, hbg_117⟩ := un_527 (hG _ ma_50) ka_50
          refine tk_ildP hx hb hK hP 0 ma_50 hfo_116 rfl (vp_in_iff.mpr (by constructor <;> omega)) dX3_tellsApart_40 ?_
          refine lv_topi (fun x_118 ex_118 => ?_)
          have bx_118 : (0 ≤ x_118.toInt ∧ x_118.toInt ≤ 255) := by rw [ex_118]; exact hbg_117 _
          refine lv_iload_n hx hb dX3_tellsApart_41 rfl (lv_at hl 2 rfl) ?_
          refine lv_iand hx hb dX3_tellsApart_42 ?_
          refine lv_topi (fun x_119 ex_119 => ?_)
          have bx_119 : ((-2147483648) ≤ x_119.toInt ∧ x_119.toInt ≤ 2147483647) := ⟨i32_lo _, i32_hi _⟩
          have hcut_121 : ∀ (y_120 : Int32), (0 ≤ y_120.toInt ∧ y_120.toInt ≤ 1) → ∀ (ls : Array Slot), lv_has ls 7 [(4, .int y_71), (0, .ref o0), (1, .int p1), (2, .int p2), (3, .int p3)] → W p l e (headSpec (wU yX3_tellsApart cX3_tellsApart 7 (some .boolean)) { frames := 15, cells := 0, slots := 0, locals := 518 }).room s m [.ref o0, .int p1, .int p2, .int p3].toArray below meth c H locs 0 0 (MQ below (va_Qi (fun (r : Int32) (f9 : Nat → va_E) => GI (okc cI cL cZ cR cG cH L kd) kd L f9 ∧ (0 ≤ r.toInt ∧ r.toInt ≤ 1) ∧ (∀ b, kd b ≠ 1 → kd b ≠ 3 → kd b ≠ 10 → kd b ≠ 517 → kd b ≠ 518 → kd b ≠ 519 → kd b ≠ 520 → kd b ≠ 521 → kd b ≠ 522 → kd b ≠ 523 → kd b ≠ 524 → kd b ≠ 525 → kd b ≠ 526 → kd b ≠ 527 → kd b ≠ 528 → f9 b = f b) ∧ (∀ b, kd b = 1 → fldR (f9 b) 0 = fldR (f b) 0) ∧ (∀ b, kd b = 1 → fldR (f9 b) 1 = fldR (f b) 1) ∧ (∀ b, kd b = 3 → fldR (f9 b) 0 = fldR (f b) 0) ∧ (∀ b, kd b = 3 → fldR (f9 b) 3 = fldR (f b) 3) ∧ (∀ d9, fldR (f9 o0) 3 = some d9 → drel kd 1 521 522 f9 d9)) (qP (dC, dI) cI cL cZ cR cG cH L) (fun q => q ∈ L)) [.ref o0, .int p1, .int p2, .int p3].toArray s 0 0 (fun q => q ∈ L)) (F0 m 51 ls [.int y_120]) := by
            intro y_120 by_120 ls hl
            refine lv_istore (lv' := [(5, .int y_120), (4, .int y_71), (0, .ref o0), (1, .int p1), (2, .int p2), (3, .int p3)]) hx hb dX3_tellsApart_51 hl (by decide) rfl (fun ls hl => ?_)
            refine lv_aload_n hx hb dX3_tellsApart_53 rfl (lv_at hl 2 rfl) ?_
            refine tk_getP (D := (dC, dI)) (ci := 3) (v := .ref a_50) (C := RX3) (T := TX3) (N := 18) hx hb hU inlX3 hown hK hP mo0 hfo_74 rfl 14 (by decide) (hU _ wd_65) (fun _ h9 => h9) rfl dX3_tellsApart_54 ?_
            refine lv_iload hx hb dX3_tellsApart_57 (lv_at hl 1 rfl) ?_
            refine tk_ildP hx hb hK hP 0 ma_50 hfo_116 rfl (vp_in_iff.mpr (by constructor <;> omega)) dX3_tellsApart_59 ?_
            refine tk_topi (y := x_118) ex_118.symm ?_
            refine lv_iload_n hx hb dX3_tellsApart_60 rfl (lv_at hl 4 rfl) ?_
            refine lv_iand hx hb dX3_tellsApart_61 ?_
            refine lv_topi (fun x_122 ex_122 => ?_)
            have bx_122 : ((-2147483648) ≤ x_122.toInt ∧ x_122.toInt ≤ 2147483647) := ⟨i32_lo _, i32_hi _⟩
            have hcut_124 : ∀ (y_123 : Int32), (0 ≤ y_123.toInt ∧ y_123.toInt ≤ 2) → ∀ (ls : Array Slot), lv_has ls 7 [(5, .int y_120), (4, .int y_71), (0, .ref o0), (1, .int p1), (2, .int p2), (3, .int p3)] → W p l e (headSpec (wU yX3_tellsApart cX3_tellsApart 7 (some .boolean)) { frames := 15, cells := 0, slots := 0, locals := 518 }).room s m [.ref o0, .int p1, .int p2, .int p3].toArray below meth c H locs 0 0 (MQ below (va_Qi (fun (r : Int32) (f9 : Nat → va_E) => GI (okc cI cL cZ cR cG cH L kd) kd L f9 ∧ (0 ≤ r.toInt ∧ r.toInt ≤ 1) ∧ (∀ b, kd b ≠ 1 → kd b ≠ 3 → kd b ≠ 10 → kd b ≠ 517 → kd b ≠ 518 → kd b ≠ 519 → kd b ≠ 520 → kd b ≠ 521 → kd b ≠ 522 → kd b ≠ 523 → kd b ≠ 524 → kd b ≠ 525 → kd b ≠ 526 → kd b ≠ 527 → kd b ≠ 528 → f9 b = f b) ∧ (∀ b, kd b = 1 → fldR (f9 b) 0 = fldR (f b) 0) ∧ (∀ b, kd b = 1 → fldR (f9 b) 1 = fldR (f b) 1) ∧ (∀ b, kd b = 3 → fldR (f9 b) 0 = fldR (f b) 0) ∧ (∀ b, kd b = 3 → fldR (f9 b) 3 = fldR (f b) 3) ∧ (∀ d9, fldR (f9 o0) 3 = some d9 → drel kd 1 521 522 f9 d9)) (qP (dC, dI) cI cL cZ cR cG cH L) (fun q => q ∈ L)) [.ref o0, .int p1, .int p2, .int p3].toArray s 0 0 (fun q => q ∈ L)) (F0 m 70 ls [.int y_123]) := by
              intro y_123 by_123 ls hl
              refine lv_istore (lv' := [(6, .int y_123), (5, .int y_120), (4, .int y_71), (0, .ref o0), (1, .int p1), (2, .int p2), (3, .int p3)]) hx hb dX3_tellsApart_70 hl (by decide) rfl (fun ls hl => ?_)
              refine lv_aload_n hx hb dX3_tellsApart_72 rfl (lv_at hl 3 rfl) ?_
              refine tk_getP (D := (dC, dI)) (ci := 3) (v := .ref a_52) (C := RX3) (T := TX3) (N := 18) hx hb hU inlX3 hown hK hP mo0 hfo_74 rfl 16 (by decide) (hU _ wd_66) (fun _ h9 => h9) rfl dX3_tellsApart_73 ?_
              refine lv_aload_n hx hb dX3_tellsApart_76 rfl (lv_at hl 3 rfl) ?_
              refine lv_iload hx hb dX3_tellsApart_77 (lv_at hl 2 rfl) ?_
              refine tk_ViP (As := [.int y_71]) (rest := [.ref a_52]) (n := 1) hx hb hml hown hU hN hZ (s_X3_shortCode_k3 l (dC, dI) cI cL cZ cR cG cH Z kd L f_73 hG o0 mo0 ko0 y_71 (by constructor <;> omega)) wd_1321 wd_1322 wd_1323 wd_16 wd_1324 (by decide +kernel) ⟨Nat.le_of_ble_eq_true rfl, Nat.le_of_ble_eq_true rfl⟩ hK hP hD hS mo0 hfo_74 3 rfl rfl rfl hl.1 rfl (Nat.le_of_ble_eq_true rfl) dX3_tellsApart_79 ⟨Nat.le_of_ble_eq_true rfl, Nat.le_of_ble_eq_true rfl⟩ (fun x_125 f_126 H locs hw hP hD hS => ?_)
              obtain ⟨rfl, bx_125⟩ := hw
              refine lv_dup2_11 hx hb dX3_tellsApart_82 rfl rfl ?_
              obtain ⟨g_129, hfo_128, hbg_129⟩ := un_528 (hG _ ma_52) ka_52
              refine tk_ildP hx hb hK hP 0 ma_52 hfo_128 rfl (vp_in_iff.mpr (by constructor <;> omega)) dX3_tellsApart_83 ?_
              refine lv_topi (fun x_130 ex_130 => ?_)
              have bx_130 : ((-2147483648) ≤ x_130.toInt ∧ x_130.toInt ≤ 2147483647) := ⟨i32_lo _, i32_hi _⟩
              refine lv_iload hx hb dX3_tellsApart_84 (lv_at hl 1 rfl) ?_
              refine lv_iload hx hb dX3_tellsApart_86 (lv_at hl 0 rfl) ?_
              refine lv_ior hx hb dX3_tellsApart_88 ?_
              refine lv_topi (fun x_131 ex_131 => ?_)
              have bx_131 : (0 ≤ x_131.toInt ∧ x_131.toInt ≤ 3) := by rw [ex_131]; exact or_K 2 (by decide) (by constructor <;> omega) (by constructor <;> omega)
              refine lv_ior hx hb dX3_tellsApart_89 ?_
              refine lv_topi (fun x_132 ex_132 => ?_)
              have bx_132 : ((-2147483648) ≤ x_132.toInt ∧ x_132.toInt ≤ 2147483647) := ⟨i32_lo _, i32_hi _⟩
              refine tk_istP hx hb hK hP hD hS 0 ma_52 hfo_128 rfl (vp_in_iff.mpr (by constructor <;> omega)) dX3_tellsApart_90 (fun H locs hP hD hS => ?_)
              obtain ⟨f_134, ef_134⟩ : ∃ y : Nat → va_E, y = va_up f_73 a_52 (.inl (cI, 6561, .inl (upd g_129 (Int32.toNatClampNeg x_125) x_132))) := ⟨_, rfl⟩
              have hP : va_P (dC, dI) vwCl (va_pl L f_134) H := by rw [ef_134]; exact hP
              have hD : va_D (fun q => q ∈ L) (va_pl L f_134) := by rw [ef_134]; exact hD
              have hG : GI (okc cI cL cZ cR cG cH L kd) kd L f_134 := by rw [ef_134]; exact hG.set a_52 (mk_528 ka_52 ⟨_, rfl, okI_up hbg_129 ⟨i32_lo _, i32_hi _⟩ _⟩)
              have hfo_135 : f_134 o0 = .inr (3, [.ref a_2, .ref a_37, .ref a_38, .ref a_5, .ref a_40, .int v_41, .int v_42, .int v_43, .int v_44, .int v_45, .int v_46, .int v_47, .ref a_48, .ref a_49, .ref a_50, .int v_51, .ref a_52, .ref a_53]) := by rw [ef_134, up_ne (kd_ne ka_52 ko0 (by decide))]; exact hfo_74
              have hfo_136 : f_134 a_50 = .inl (cI, 1024, .inl g_117) := by rw [ef_134, up_ne (kd_ne ka_52 ka_50 (by decide))]; exact hfo_116
              have hfr0 : ∀ b, kd b ≠ 1 → kd b ≠ 3 → kd b ≠ 10 → kd b ≠ 517 → kd b ≠ 518 → kd b ≠ 519 → kd b ≠ 520 → kd b ≠ 521 → kd b ≠ 522 → kd b ≠ 523 → kd b ≠ 524 → kd b ≠ 525 → kd b ≠ 526 → kd b ≠ 527 → kd b ≠ 528 → f_134 b = f b := fun b q1 q3 q10 q517 q518 q519 q520 q521 q522 q523 q524 q525 q526 q527 q528 => (congrFun ef_134 b).trans ((up_ne (fun e9 => q528 (by rw [e9]; exact ka_52))).trans (hfr0 b q1 q3 q10 q517 q518 q519 q520 q521 q522 q523 q524 q525 q526 q527 q528))
              have hrr1_0 : ∀ b, kd b = 1 → fldR (f_134 b) 0 = fldR (f b) 0 := fun b kb => (congrArg (fun x => fldR x 0) ((congrFun ef_134 b).trans (up_ne (kd_ne ka_52 kb (by decide))))).trans (hrr1_0 b kb)
              have hrr1_1 : ∀ b, kd b = 1 → fldR (f_134 b) 1 = fldR (f b) 1 := fun b kb => (congrArg (fun x => fldR x 1) ((congrFun ef_134 b).trans (up_ne (kd_ne ka_52 kb (by decide))))).trans (hrr1_1 b kb)
              have hrr3_0 : ∀ b, kd b = 3 → fldR (f_134 b) 0 = fldR (f b) 0 := fun b kb => (congrArg (fun x => fldR x 0) ((congrFun ef_134 b).trans (up_ne (kd_ne ka_52 kb (by decide))))).trans (hrr3_0 b kb)
              have hrr3_3 : ∀ b, kd b = 3 → fldR (f_134 b) 3 = fldR (f b) 3 := fun b kb => (congrArg (fun x => fldR x 3) ((congrFun ef_134 b).trans (up_ne (kd_ne ka_52 kb (by decide))))).trans (hrr3_3 b kb)
              have hT_54 : drel kd 1 521 522 f_134 a_5 := by rw [ef_134]; exact hT_54.up ka_52 (by decide) (by decide) (by decide)
              have hfo_137 : f_134 a_52 = .inl (cI, 6561, .inl (upd g_129 (Int32.toNatClampNeg x_125) x_132)) := by rw [ef_134]; exact up_self
              obtain ⟨x_138, ex_138⟩ : ∃ y : Int32, y_71 + 1 = y := ⟨_, rfl⟩
              have hx_138 : x_138.toInt = y_71.toInt + 1 := by rw [← ex_138, ad_I (by rw [ti_1]; omega) (by rw [ti_1]; omega), ti_1]
              have bx_138 : (1 ≤ x_138.toInt ∧ x_138.toInt ≤ 1024) := by constructor <;> omega
              refine lv_iinc (v := x_138) (lv' := [(4, .int x_138), (6, .int y_123), (5, .int y_120), (0, .ref o0), (1, .int p1), (2, .int p2), (3, .int p3)]) hx hb dX3_tellsApart_91 hl (k := 2) rfl ex_138 (by decide) rfl (fun ls hl => ?_)
              refine lv_goto (tgt := 25) hx hb dX3_tellsApart_94 (by decide) ?_
              exact ih_hloop_70 x_138 (by constructor <;> omega) f_134 hG _ _ hP hS hD hfr0 hrr1_0 hrr1_1 hrr3_0 hrr3_3 hfo_135 hT_54 (by omega) ls (lv_sub hl [0, 3, 4, 5, 6] rfl)
            refine lv_if_ne (tgt := 69) hx hb dX3_tellsApart_62 (by decide) (fun c_139 => ?_) (fun c_139 => ?_)
            · skip
              rw [← Int32.toInt_inj, ti_0] at c_139
              refine lv_iconst (v := 0) hx hb dX3_tellsApart_69 (by decide) ?_
              exact hcut_124 0 (by decide) ls (lv_sub hl [0, 1, 2, 3, 4, 5] rfl)
            · skip
              rw [← Int32.toInt_inj, ti_0] at c_139
              refine lv_iconst (v := 2) hx hb dX3_tellsApart_65 (by decide) ?_
              refine lv_goto (tgt := 70) hx hb dX3_tellsApart_66 (by decide) ?_
              exact hcut_124 2 (by decide) ls (lv_sub hl [0, 1, 2, 3, 4, 5] rfl)
          refine lv_if_ne (tgt := 50) hx hb dX3_tellsApart_43 (by decide) (fun c_140 => ?_) (fun c_140 => ?_)
          · skip
            rw [← Int32.toInt_inj, ti_0] at c_140
            refine lv_iconst (v := 0) hx hb dX3_tellsApart_50 (by decide) ?_
            exact hcut_121 0 (by decide) ls (lv_sub hl [0, 1, 2, 3, 4] rfl)
          · skip
            rw [← Int32.toInt_inj, ti_0] at c_140
            refine lv_iconst (v := 1) hx hb dX3_tellsApart_46 (by decide) ?_
            refine lv_goto (tgt := 51) hx hb dX3_tellsApart_47 (by decide) ?_
            exact hcut_121 1 (by decide) ls (lv_sub hl [0, 1, 2, 3, 4] rfl)
    exact hloop_70 1025 0 (by decide) f_27 hG _ _ hP hS hD hfr0 hrr1_0 hrr1_1 hrr3_0 hrr3_3 hfo_35 hT_54 (by (try rw [ti_0]) <;> omega) ls hl
  · skip
    rw [← Int32.toInt_inj, ti_0] at c_24
    refine lv_iconst (v := 0) hx hb dX3_tellsApart_10 (by decide) ?_
    exact W.zret (v := 0) (ty := .boolean) hx hb hr rfl (fun t ht hW => ⟨⟨0, f, rfl, ⟨hG, (by decide), hfr0, hrr1_0, hrr1_1, hrr3_0, hrr3_3, (fun d9 h9 => by rw [hfo_1] at h9; obtain rfl := Option.some.inj h9; exact hT0)⟩, by rw [ht]; exact hP, va_K.moved hW.alike hK, pl_in hD⟩, hS.F ht⟩) hS.2.2 dX3_tellsApart_11
set_option maxHeartbeats 8000000 in
set_option maxRecDepth 100000 in
theorem s_X3_noteNeeded_k3 (l : Launch) (D : va_G) (cI cL cZ cR cG cH : ClassId) (Z : zT) (kd : Nat → Nat) (L : List Nat) (f : Nat → va_E) (hG : GI (okc cI cL cZ cR cG cH L kd) kd L f) (o0 : Nat) (mo0 : o0 ∈ L) (ko0 : kd o0 = 3) (p1 : Int32) (p2 : Int32) (hxtr0 : ∀ d9, fldR (f o0) 3 = some d9 → drel kd 1 521 522 f d9) : mPV l D cI cL cZ cR cG cH Z yX3_noteNeeded cX3_noteNeeded 4 none 15 518 [.ref o0, .int p1, .int p2] L f (fun (f9 : Nat → va_E) => GI (okc cI cL cZ cR cG cH L kd) kd L f9 ∧ (∀ b, kd b ≠ 1 → kd b ≠ 3 → kd b ≠ 10 → kd b ≠ 517 → kd b ≠ 518 → kd b ≠ 519 → kd b ≠ 520 → kd b ≠ 521 → kd b ≠ 522 → kd b ≠ 523 → kd b ≠ 524 → kd b ≠ 525 → kd b ≠ 526 → kd b ≠ 527 → kd b ≠ 528 → kd b ≠ 529 → f9 b = f b) ∧ (∀ b, kd b = 1 → fldR (f9 b) 0 = fldR (f b) 0) ∧ (∀ b, kd b = 1 → fldR (f9 b) 1 = fldR (f b) 1) ∧ (∀ b, kd b = 3 → fldR (f9 b) 0 = fldR (f b) 0) ∧ (∀ b, kd b = 3 → fldR (f9 b) 3 = fldR (f b) 3) ∧ (∀ d9, fldR (f9 o0) 3 = some d9 → drel kd 1 521 522 f9 d9)) := by
  obtain ⟨dC, dI⟩ := D
  refine Met.ofW (cc := cX3_noteNeeded) (maxL := 4) (ret := none) (by decide) rfl ?_
  intro p e s m args below meth c s₁ B hml hv
  obtain ⟨rfl, hP, hK, hD0, hN, hZ⟩ := hv
  have hx := B.exec
  have hb := B.bytes
  have hr := B.returns
  have hU : ∀ w ∈ wsU, w.before _ s = true := fun w h => atoms_spec (ws := wU yX3_noteNeeded cX3_noteNeeded 4 none) B.pre w (List.mem_cons_of_mem _ h)
  have hown : s.vm.findClass RX3 = some m.cls := findClass_of_methodNamed B.named
  have hlocks := B.notSynchronized
  have hD := pl_in hD0
  have hS : va_S (fun q => q ∈ L) s.heap s.heap [] := va_S.rf
  have hl := lv_entry ([.ref o0, .int p1, .int p2]) (n := 4) (Nat.le_of_ble_eq_true rfl)
  rw [lg_entry_eq]
  generalize (lg_sl ([.ref o0, .int p1, .int p2]) ++ List.replicate (4 - (lg_sl ([.ref o0, .int p1, .int p2])).length) Slot.unset).toArray = ls at hl ⊢
  have hl : lv_has ls 4 [(0, .ref o0), (1, .int p1), (2, .int p2)] := hl
  have bp1 : ((-2147483648) ≤ p1.toInt ∧ p1.toInt ≤ 2147483647) := ⟨i32_lo _, i32_hi _⟩
  have bp2 : ((-2147483648) ≤ p2.toInt ∧ p2.toInt ≤ 2147483647) := ⟨i32_lo _, i32_hi _⟩
  have hfr0 : ∀ b, kd b ≠ 1 → kd b ≠ 3 → kd b ≠ 10 → kd b ≠ 517 → kd b ≠ 518 → kd b ≠ 519 → kd b ≠ 520 → kd b ≠ 521 → kd b ≠ 522 → kd b ≠ 523 → kd b ≠ 524 → kd b ≠ 525 → kd b ≠ 526 → kd b ≠ 527 → kd b ≠ 528 → kd b ≠ 529 → f b = f b := fun _ _ _ _ _ _ _ _ _ _ _ _ _ _ _ _ _ => rfl
  have hrr1_0 : ∀ b, kd b = 1 → fldR (f b) 0 = fldR (f b) 0 := fun _ _ => rfl
  have hrr1_1 : ∀ b, kd b = 1 → fldR (f b) 1 = fldR (f b) 1 := fun _ _ => rfl
  have hrr3_0 : ∀ b, kd b = 3 → fldR (f b) 0 = fldR (f b) 0 := fun _ _ => rfl
  have hrr3_3 : ∀ b, kd b = 3 → fldR (f b) 3 = fldR (f b) 3 := fun _ _ => rfl
  obtain ⟨a_2, a_3, a_4, a_5, a_6, v_7, v_8, v_9, v_10, v_11, v_12, v_13, a_14, a_15, a_16, v_17, a_18, a_19, hfo_1, ⟨ma_2, ka_2⟩, ⟨ma_3, ka_3⟩, ⟨ma_4, ka_4⟩, ⟨ma_5, ka_5⟩, ⟨ma_6, ka_6⟩, bv_7, bv_8, bv_9, ⟨ma_14, ka_14⟩, ⟨ma_15, ka_15⟩, ⟨ma_16, ka_16⟩, bv_17, ⟨ma_18, ka_18⟩, ⟨ma_19, ka_19⟩⟩ := un_3 (hG _ mo0) ko0
  have bv_10 : ((-2147483648) ≤ v_10.toInt ∧ v_10.toInt ≤ 2147483647) := ⟨i32_lo _, i32_hi _⟩
  have bv_11 : ((-2147483648) ≤ v_11.toInt ∧ v_11.toInt ≤ 2147483647) := ⟨i32_lo _, i32_hi _⟩
  have bv_12 : ((-2147483648) ≤ v_12.toInt ∧ v_12.toInt ≤ 2147483647) := ⟨i32_lo _, i32_hi _⟩
  have bv_13 : ((-2147483648) ≤ v_13.toInt ∧ v_13.toInt ≤ 2147483647) := ⟨i32_lo _, i32_hi _⟩
  have hT0 := hxtr0 a_5 (by rw [hfo_1]; rfl)
  refine lv_aload_n hx hb dX3_noteNeeded_0 rfl (lv_at hl 0 rfl) ?_
  refine lv_iconst (v := 0) hx hb dX3_noteNeeded_1 (by decide) ?_
  refine lv_iconst (v := 0) hx hb dX3_noteNeeded_2 (by decide) ?_
  refine lv_iload_n hx hb dX3_noteNeeded_3 rfl (lv_at hl 1 rfl) ?_
  refine lv_iload_n hx hb dX3_noteNeeded_4 rfl (lv_at hl 2 rfl) ?_
  refine tk_VvP (As := [.int 0, .int 0, .int p1, .int p2]) (rest := []) (n := 4) hx hb hml hown hU hN hZ (s_X3_list_k3 l (dC, dI) cI cL cZ cR cG cH Z kd L f hG o0 mo0 ko0 0 0 p1 p2 (fun d9 h9 => by rw [hfo_1] at h9; obtain rfl := Option.some.inj h9; exact hT0)) wd_1161 wd_1162 wd_1163 wd_16 wd_1164 (by decide +kernel) ⟨Nat.le_of_ble_eq_true rfl, Nat.le_of_ble_eq_true rfl⟩ hK hP hD hS mo0 hfo_1 3 rfl rfl rfl hl.1 rfl (Nat.le_of_ble_eq_true rfl) dX3_noteNeeded_5 ⟨Nat.le_of_ble_eq_true rfl, Nat.le_of_ble_eq_true rfl⟩ (fun f_21 H locs hw hP hD hS => ?_)
  obtain ⟨hG, hkc_22, hrc_23, hrc_24, hrc_25, hrc_26, hTc_27⟩ := hw
  have hfr0 : ∀ b, kd b ≠ 1 → kd b ≠ 3 → kd b ≠ 10 → kd b ≠ 517 → kd b ≠ 518 → kd b ≠ 519 → kd b ≠ 520 → kd b ≠ 521 → kd b ≠ 522 → kd b ≠ 523 → kd b ≠ 524 → kd b ≠ 525 → kd b ≠ 526 → kd b ≠ 527 → kd b ≠ 528 → kd b ≠ 529 → f_21 b = f b := fun b q1 q3 q10 q517 q518 q519 q520 q521 q522 q523 q524 q525 q526 q527 q528 q529 => (hkc_22 b q1 q3 q10 q517 q518 q519 q520 q521 q522 q523 q524 q525 q526 q527).trans (hfr0 b q1 q3 q10 q517 q518 q519 q520 q521 q522 q523 q524 q525 q526 q527 q528 q529)
  have hrr1_0 : ∀ b, kd b = 1 → fldR (f_21 b) 0 = fldR (f b) 0 := fun b kb => (hrc_23 b kb).trans (hrr1_0 b kb)
  have hrr1_1 : ∀ b, kd b = 1 → fldR (f_21 b) 1 = fldR (f b) 1 := fun b kb => (hrc_24 b kb).trans (hrr1_1 b kb)
  have hrr3_0 : ∀ b, kd b = 3 → fldR (f_21 b) 0 = fldR (f b) 0 := fun b kb => (hrc_25 b kb).trans (hrr3_0 b kb)
  have hrr3_3 : ∀ b, kd b = 3 → fldR (f_21 b) 3 = fldR (f b) 3 := fun b kb => (hrc_26 b kb).trans (hrr3_3 b kb)
  obtain ⟨a_30, a_31, a_32, a_33, a_34, v_35, v_36, v_37, v_38, v_39, v_40, v_41, a_42, a_43, a_44, v_45, a_46, a_47, hfo_29, ⟨ma_30, ka_30⟩, ⟨ma_31, ka_31⟩, ⟨ma_32, ka_32⟩, ⟨ma_33, ka_33⟩, ⟨ma_34, ka_34⟩, bv_35, bv_36, bv_37, ⟨ma_42, ka_42⟩, ⟨ma_43, ka_43⟩, ⟨ma_44, ka_44⟩, bv_45, ⟨ma_46, ka_46⟩, ⟨ma_47, ka_47⟩⟩ := un_3 (hG _ mo0) ko0
  have bv_38 : ((-2147483648) ≤ v_38.toInt ∧ v_38.toInt ≤ 2147483647) := ⟨i32_lo _, i32_hi _⟩
  have bv_39 : ((-2147483648) ≤ v_39.toInt ∧ v_39.toInt ≤ 2147483647) := ⟨i32_lo _, i32_hi _⟩
  have bv_40 : ((-2147483648) ≤ v_40.toInt ∧ v_40.toInt ≤ 2147483647) := ⟨i32_lo _, i32_hi _⟩
  have bv_41 : ((-2147483648) ≤ v_41.toInt ∧ v_41.toInt ≤ 2147483647) := ⟨i32_lo _, i32_hi _⟩
  obtain rfl : a_2 = a_30 := by have hk9 := hrr3_0 o0 ko0; rw [hfo_29, hfo_1] at hk9; exact (Option.some.inj hk9).symm
  obtain rfl : a_5 = a_33 := by have hk9 := hrr3_3 o0 ko0; rw [hfo_29, hfo_1] at hk9; exact (Option.some.inj hk9).symm
  have hT_48 := hTc_27 a_5 (by rw [hfo_29]; rfl)
  refine lv_iconst (v := 0) hx hb dX3_noteNeeded_8 (by decide) ?_
  refine lv_istore_n (lv' := [(3, .int 0), (0, .ref o0), (1, .int p1), (2, .int p2)]) hx hb dX3_noteNeeded_9 rfl hl (by decide) rfl (fun ls hl => ?_)
  have hloop_64 : ∀ (n : Nat), ∀ (y_65 : Int32), (0 ≤ y_65.toInt ∧ y_65.toInt ≤ 1024) → ∀ (f_67 : Nat → va_E), GI (okc cI cL cZ cR cG cH L kd) kd L f_67 → ∀ (H : Heap) (locs : List Loc), va_P (dC, dI) vwCl (va_pl L f_67) H → va_S (fun q => q ∈ L) s.heap H locs → va_D (fun q => q ∈ L) (va_pl L f_67) → (∀ b, kd b ≠ 1 → kd b ≠ 3 → kd b ≠ 10 → kd b ≠ 517 → kd b ≠ 518 → kd b ≠ 519 → kd b ≠ 520 → kd b ≠ 521 → kd b ≠ 522 → kd b ≠ 523 → kd b ≠ 524 → kd b ≠ 525 → kd b ≠ 526 → kd b ≠ 527 → kd b ≠ 528 → kd b ≠ 529 → f_67 b = f b) → (∀ b, kd b = 1 → fldR (f_67 b) 0 = fldR (f b) 0) → (∀ b, kd b = 1 → fldR (f_67 b) 1 = fldR (f b) 1) → (∀ b, kd b = 3 → fldR (f_67 b) 0 = fldR (f b) 0) → (∀ b, kd b = 3 → fldR (f_67 b) 3 = fldR (f b) 3) → (f_67 o0 = .inr (3, [.ref a_2, .ref a_31, .ref a_32, .ref a_5, .ref a_34, .int v_35, .int v_36, .int v_37, .int v_38, .int v_39, .int v_40, .int v_41, .ref a_42, .ref a_43, .ref a_44, .int v_45, .ref a_46, .ref a_47])) → drel kd 1 521 522 f_67 a_5 → 1024 - y_65.toInt < (n : Int) → ∀ (ls : Array Slot), lv_has ls 4 [(3, .int y_65), (0, .ref o0), (1, .int p1), (2, .int p2)] → W p l e (headSpec (wU yX3_noteNeeded cX3_noteNeeded 4 none) { frames := 15, cells := 0, slots := 0, locals := 518 }).room s m [.ref o0, .int p1, .int p2].toArray below meth c H locs 0 0 (MQ below (va_Qv (fun (f9 : Nat → va_E) => GI (okc cI cL cZ cR cG cH L kd) kd L f9 ∧ (∀ b, kd b ≠ 1 → kd b ≠ 3 → kd b ≠ 10 → kd b ≠ 517 → kd b ≠ 518 → kd b ≠ 519 → kd b ≠ 520 → kd b ≠ 521 → kd b ≠ 522 → kd b ≠ 523 → kd b ≠ 524 → kd b ≠ 525 → kd b ≠ 526 → kd b ≠ 527 → kd b ≠ 528 → kd b ≠ 529 → f9 b = f b) ∧ (∀ b, kd b = 1 → fldR (f9 b) 0 = fldR (f b) 0) ∧ (∀ b, kd b = 1 → fldR (f9 b) 1 = fldR (f b) 1) ∧ (∀ b, kd b = 3 → fldR (f9 b) 0 = fldR (f b) 0) ∧ (∀ b, kd b = 3 → fldR (f9 b) 3 = fldR (f b) 3) ∧ (∀ d9, fldR (f9 o0) 3 = some d9 → drel kd 1 521 522 f9 d9)) (qP (dC, dI) cI cL cZ cR cG cH L) (fun q => q ∈ L)) [.ref o0, .int p1, .int p2].toArray s 0 0 (fun q => q ∈ L)) (F0 m 10 ls []) := by
    intro n
    induction n with
    | zero => intro y_65 by_65 f_67 hG H locs hP hS hD hfr0 hrr1_0 hrr1_1 hrr3_0 hrr3_3 hfo_68 hT_48 hmuhloop_64 ls hl; exfalso; omega
    | succ n ih_hloop_64 =>
      intro y_65 by_65 f_67 hG H locs hP hS hD hfr0 hrr1_0 hrr1_1 hrr3_0 hrr3_3 hfo_68 hT_48 hmuhloop_64 ls hl
      refine lv_iload_n hx hb dX3_noteNeeded_10 rfl (lv_at hl 0 rfl) ?_
      refine lv_aload_n hx hb dX3_noteNeeded_11 rfl (lv_at hl 1 rfl) ?_
      refine tk_getP (D := (dC, dI)) (ci := 3) (v := .int v_45) (C := RX3) (T := TX3) (N := 18) hx hb hU inlX3 hown hK hP mo0 hfo_68 rfl 15 (by decide) (hU _ wd_796) (fun _ h9 => h9) rfl dX3_noteNeeded_12 ?_
      refine lv_icmp_ge (tgt := 44) hx hb dX3_noteNeeded_15 (by decide) (fun c_69 => ?_) (fun c_69 => ?_)
      · skip
        rw [Int32.le_iff_toInt_le] at c_69
        refine lv_iconst (v := 0) hx hb dX3_noteNeeded_44 (by decide) ?_
        refine lv_istore_n (lv' := [(3, .int 0), (0, .ref o0), (1, .int p1), (2, .int p2)]) hx hb dX3_noteNeeded_45 rfl hl (by decide) rfl (fun ls hl => ?_)
        have hloop_85 : ∀ (n : Nat), ∀ (y_86 : Int32), (0 ≤ y_86.toInt ∧ y_86.toInt ≤ 1024) → ∀ (f_88 : Nat → va_E), GI (okc cI cL cZ cR cG cH L kd) kd L f_88 → ∀ (H : Heap) (locs : List Loc), va_P (dC, dI) vwCl (va_pl L f_88) H → va_S (fun q => q ∈ L) s.heap H locs → va_D (fun q => q ∈ L) (va_pl L f_88) → (∀ b, kd b ≠ 1 → kd b ≠ 3 → kd b ≠ 10 → kd b ≠ 517 → kd b ≠ 518 → kd b ≠ 519 → kd b ≠ 520 → kd b ≠ 521 → kd b ≠ 522 → kd b ≠ 523 → kd b ≠ 524 → kd b ≠ 525 → kd b ≠ 526 → kd b ≠ 527 → kd b ≠ 528 → kd b ≠ 529 → f_88 b = f b) → (∀ b, kd b = 1 → fldR (f_88 b) 0 = fldR (f b) 0) → (∀ b, kd b = 1 → fldR (f_88 b) 1 = fldR (f b) 1) → (∀ b, kd b = 3 → fldR (f_88 b) 0 = fldR (f b) 0) → (∀ b, kd b = 3 → fldR (f_88 b) 3 = fldR (f b) 3) → (f_88 o0 = .inr (3, [.ref a_2, .ref a_31, .ref a_32, .ref a_5, .ref a_34, .int v_35, .int v_36, .int v_37, .int v_38, .int v_39, .int v_40, .int v_41, .ref a_42, .ref a_43, .ref a_44, .int v_45, .ref a_46, .ref a_47])) → drel kd 1 521 522 f_88 a_5 → 1024 - y_86.toInt < (n : Int) → ∀ (ls : Array Slot), lv_has ls 4 [(3, .int y_86), (0, .ref o0), (1, .int p1), (2, .int p2)] → W p l e (headSpec (wU yX3_noteNeeded cX3_noteNeeded 4 none) { frames := 15, cells := 0, slots := 0, locals := 518 }).room s m [.ref o0, .int p1, .int p2].toArray below meth c H locs 0 0 (MQ below (va_Qv (fun (f9 : Nat → va_E) => GI (okc cI cL cZ cR cG cH L kd) kd L f9 ∧ (∀ b, kd b ≠ 1 → kd b ≠ 3 → kd b ≠ 10 → kd b ≠ 517 → kd b ≠ 518 → kd b ≠ 519 → kd b ≠ 520 → kd b ≠ 521 → kd b ≠ 522 → kd b ≠ 523 → kd b ≠ 524 → kd b ≠ 525 → kd b ≠ 526 → kd b ≠ 527 → kd b ≠ 528 → kd b ≠ 529 → f9 b = f b) ∧ (∀ b, kd b = 1 → fldR (f9 b) 0 = fldR (f b) 0) ∧ (∀ b, kd b = 1 → fldR (f9 b) 1 = fldR (f b) 1) ∧ (∀ b, kd b = 3 → fldR (f9 b) 0 = fldR (f b) 0) ∧ (∀ b, kd b = 3 → fldR (f9 b) 3 = fldR (f b) 3) ∧ (∀ d9, fldR (f9 o0) 3 = some d9 → drel kd 1 521 522 f9 d9)) (qP (dC, dI) cI cL cZ cR cG cH L) (fun q => q ∈ L)) [.ref o0, .int p1, .int p2].toArray s 0 0 (fun q => q ∈ L)) (F0 m 46 ls []) := by
          intro n
          induction n with
          | zero => intro y_86 by_86 f_88 hG H locs hP hS hD hfr0 hrr1_0 hrr1_1 hrr3_0 hrr3_3 hfo_89 hT_48 hmuhloop_85 ls hl; exfalso; omega
          | succ n ih_hloop_85 =>
            intro y_86 by_86 f_88 hG H locs hP hS hD hfr0 hrr1_0 hrr1_1 hrr3_0 hrr3_3 hfo_89 hT_48 hmuhloop_85 ls hl
            refine lv_iload_n hx hb dX3_noteNeeded_46 rfl (lv_at hl 0 rfl) ?_
            refine lv_aload_n hx hb dX3_noteNeeded_47 rfl (lv_at hl 1 rfl) ?_
            refine tk_getP (D := (dC, dI)) (ci := 3) (v := .int v_45) (C := RX3) (T := TX3) (N := 18) hx hb hU inlX3 hown hK hP mo0 hfo_89 rfl 15 (by decide) (hU _ wd_796) (fun _ h9 => h9) rfl dX3_noteNeeded_48 ?_
            refine lv_icmp_ge (tgt := 85) hx hb dX3_noteNeeded_51 (by decide) (fun c_90 => ?_) (fun c_90 => ?_)
            · skip
              rw [Int32.le_iff_toInt_le] at c_90
              refine lv_aload_n hx hb dX3_noteNeeded_85 rfl (lv_at hl 1 rfl) ?_
              refine tk_VvP (As := []) (rest := []) (n := 0) hx hb hml hown hU hN hZ (s_X3_clearMarks_k3 l (dC, dI) cI cL cZ cR cG cH Z kd L f_88 hG o0 mo0 ko0) wd_1326 wd_1327 wd_1328 wd_16 wd_1329 (by decide +kernel) ⟨Nat.le_of_ble_eq_true rfl, Nat.le_of_ble_eq_true rfl⟩ hK hP hD hS mo0 hfo_89 3 rfl rfl rfl hl.1 rfl (Nat.le_of_ble_eq_true rfl) dX3_noteNeeded_86 ⟨Nat.le_of_ble_eq_true rfl, Nat.le_of_ble_eq_true rfl⟩ (fun f_92 H locs hw hP hD hS => ?_)
              obtain ⟨hG, hkc_93⟩ := hw
              have hfo_95 : f_92 o0 = .inr (3, [.ref a_2, .ref a_31, .ref a_32, .ref a_5, .ref a_34, .int v_35, .int v_36, .int v_37, .int v_38, .int v_39, .int v_40, .int v_41, .ref a_42, .ref a_43, .ref a_44, .int v_45, .ref a_46, .ref a_47]) := by rw [hkc_93 o0 (by rw [ko0]; decide)]; exact hfo_89
              have hfr0 : ∀ b, kd b ≠ 1 → kd b ≠ 3 → kd b ≠ 10 → kd b ≠ 517 → kd b ≠ 518 → kd b ≠ 519 → kd b ≠ 520 → kd b ≠ 521 → kd b ≠ 522 → kd b ≠ 523 → kd b ≠ 524 → kd b ≠ 525 → kd b ≠ 526 → kd b ≠ 527 → kd b ≠ 528 → kd b ≠ 529 → f_92 b = f b := fun b q1 q3 q10 q517 q518 q519 q520 q521 q522 q523 q524 q525 q526 q527 q528 q529 => (hkc_93 b q528).trans (hfr0 b q1 q3 q10 q517 q518 q519 q520 q521 q522 q523 q524 q525 q526 q527 q528 q529)
              have hrr1_0 : ∀ b, kd b = 1 → fldR (f_92 b) 0 = fldR (f b) 0 := fun b kb => (congrArg (fun x => fldR x 0) (hkc_93 b (by rw [kb]; decide))).trans (hrr1_0 b kb)
              have hrr1_1 : ∀ b, kd b = 1 → fldR (f_92 b) 1 = fldR (f b) 1 := fun b kb => (congrArg (fun x => fldR x 1) (hkc_93 b (by rw [kb]; decide))).trans (hrr1_1 b kb)
              have hrr3_0 : ∀ b, kd b = 3 → fldR (f_92 b) 0 = fldR (f b) 0 := fun b kb => (congrArg (fun x => fldR x 0) (hkc_93 b (by rw [kb]; decide))).trans (hrr3_0 b kb)
              have hrr3_3 : ∀ b, kd b = 3 → fldR (f_92 b) 3 = fldR (f b) 3 := fun b kb => (congrArg (fun x => fldR x 3) (hkc_93 b (by rw [kb]; decide))).trans (hrr3_3 b kb)
              have hT_48 : drel kd 1 521 522 f_92 a_5 := hT_48.keep (fun b q => congrArg (fun x => fldI x 5) (hkc_93 b (by rw [q]; decide))) (fun b q => congrArg (fun x => fldR x 0) (hkc_93 b (by rw [q]; decide))) (fun b q => congrArg (fun x => fldR x 1) (hkc_93 b (by rw [q]; decide))) (fun b q => hkc_93 b (by rw [q]; decide)) (fun b q => hkc_93 b (by rw [q]; decide))
              exact W.vret hx hb hr (fun t ht hW => ⟨⟨f_92, rfl, ⟨hG, hfr0, hrr1_0, hrr1_1, hrr3_0, hrr3_3, (fun d9 h9 => by rw [hfo_95] at h9; obtain rfl := Option.some.inj h9; exact hT_48)⟩, by rw [ht]; exact hP, va_K.moved hW.alike hK, pl_in hD⟩, hS.F ht⟩) hS.2.2 dX3_noteNeeded_89
            · skip
              rw [Int32.le_iff_toInt_le] at c_90
              refine lv_aload_n hx hb dX3_noteNeeded_54 rfl (lv_at hl 1 rfl) ?_
              refine tk_getP (D := (dC, dI)) (ci := 3) (v := .ref a_46) (C := RX3) (T := TX3) (N := 18) hx hb hU inlX3 hown hK hP mo0 hfo_89 rfl 16 (by decide) (hU _ wd_66) (fun _ h9 => h9) rfl dX3_noteNeeded_55 ?_
              refine lv_aload_n hx hb dX3_noteNeeded_58 rfl (lv_at hl 1 rfl) ?_
              refine lv_iload_n hx hb dX3_noteNeeded_59 rfl (lv_at hl 0 rfl) ?_
              refine tk_ViP (As := [.int y_86]) (rest := [.ref a_46]) (n := 1) hx hb hml hown hU hN hZ (s_X3_shortCode_k3 l (dC, dI) cI cL cZ cR cG cH Z kd L f_88 hG o0 mo0 ko0 y_86 (by constructor <;> omega)) wd_1321 wd_1322 wd_1323 wd_16 wd_1324 (by decide +kernel) ⟨Nat.le_of_ble_eq_true rfl, Nat.le_of_ble_eq_true rfl⟩ hK hP hD hS mo0 hfo_89 3 rfl rfl rfl hl.1 rfl (Nat.le_of_ble_eq_true rfl) dX3_noteNeeded_60 ⟨Nat.le_of_ble_eq_true rfl, Nat.le_of_ble_eq_true rfl⟩ (fun x_96 f_97 H locs hw hP hD hS => ?_)
              obtain ⟨rfl, bx_96⟩ := hw
              obtain ⟨g_100, hfo_99, hbg_100⟩ := un_528 (hG _ ma_46) ka_46
              refine tk_ildP hx hb hK hP 0 ma_46 hfo_99 rfl (vp_in_iff.mpr (by constructor <;> omega)) dX3_noteNeeded_63 ?_
              refine lv_topi (fun x_101 ex_101 => ?_)
              have bx_101 : ((-2147483648) ≤ x_101.toInt ∧ x_101.toInt ≤ 2147483647) := ⟨i32_lo _, i32_hi _⟩
              have hcut_106 : ∀ (f_103 : Nat → va_E), GI (okc cI cL cZ cR cG cH L kd) kd L f_103 → ∀ (H : Heap) (locs : List Loc), va_P (dC, dI) vwCl (va_pl L f_103) H → va_S (fun q => q ∈ L) s.heap H locs → va_D (fun q => q ∈ L) (va_pl L f_103) → (∀ b, kd b ≠ 1 → kd b ≠ 3 → kd b ≠ 10 → kd b ≠ 517 → kd b ≠ 518 → kd b ≠ 519 → kd b ≠ 520 → kd b ≠ 521 → kd b ≠ 522 → kd b ≠ 523 → kd b ≠ 524 → kd b ≠ 525 → kd b ≠ 526 → kd b ≠ 527 → kd b ≠ 528 → kd b ≠ 529 → f_103 b = f b) → (∀ b, kd b = 1 → fldR (f_103 b) 0 = fldR (f b) 0) → (∀ b, kd b = 1 → fldR (f_103 b) 1 = fldR (f b) 1) → (∀ b, kd b = 3 → fldR (f_103 b) 0 = fldR (f b) 0) → (∀ b, kd b = 3 → fldR (f_103 b) 3 = fldR (f b) 3) → (f_103 o0 = .inr (3, [.ref a_2, .ref a_31, .ref a_32, .ref a_5, .ref a_34, .int v_35, .int v_36, .int v_37, .int v_38, .int v_39, .int v_40, .int v_41, .ref a_42, .ref a_43, .ref a_44, .int v_45, .ref a_46, .ref a_47])) → (f_103 a_46 = .inl (cI, 6561, .inl g_100)) → drel kd 1 521 522 f_103 a_5 → ∀ (ls : Array Slot), lv_has ls 4 [(3, .int y_86), (0, .ref o0), (1, .int p1), (2, .int p2)] → W p l e (headSpec (wU yX3_noteNeeded cX3_noteNeeded 4 none) { frames := 15, cells := 0, slots := 0, locals := 518 }).room s m [.ref o0, .int p1, .int p2].toArray below meth c H locs 0 0 (MQ below (va_Qv (fun (f9 : Nat → va_E) => GI (okc cI cL cZ cR cG cH L kd) kd L f9 ∧ (∀ b, kd b ≠ 1 → kd b ≠ 3 → kd b ≠ 10 → kd b ≠ 517 → kd b ≠ 518 → kd b ≠ 519 → kd b ≠ 520 → kd b ≠ 521 → kd b ≠ 522 → kd b ≠ 523 → kd b ≠ 524 → kd b ≠ 525 → kd b ≠ 526 → kd b ≠ 527 → kd b ≠ 528 → kd b ≠ 529 → f9 b = f b) ∧ (∀ b, kd b = 1 → fldR (f9 b) 0 = fldR (f b) 0) ∧ (∀ b, kd b = 1 → fldR (f9 b) 1 = fldR (f b) 1) ∧ (∀ b, kd b = 3 → fldR (f9 b) 0 = fldR (f b) 0) ∧ (∀ b, kd b = 3 → fldR (f9 b) 3 = fldR (f b) 3) ∧ (∀ d9, fldR (f9 o0) 3 = some d9 → drel kd 1 521 522 f9 d9)) (qP (dC, dI) cI cL cZ cR cG cH L) (fun q => q ∈ L)) [.ref o0, .int p1, .int p2].toArray s 0 0 (fun q => q ∈ L)) (F0 m 79 ls []) := by
                intro f_103 hG H locs hP hS hD hfr0 hrr1_0 hrr1_1 hrr3_0 hrr3_3 hfo_104 hfo_105 hT_48 ls hl
                obtain ⟨x_107, ex_107⟩ : ∃ y : Int32, y_86 + 1 = y := ⟨_, rfl⟩
                have hx_107 : x_107.toInt = y_86.toInt + 1 := by rw [← ex_107, ad_I (by rw [ti_1]; omega) (by rw [ti_1]; omega), ti_1]
                have bx_107 : (1 ≤ x_107.toInt ∧ x_107.toInt ≤ 1024) := by constructor <;> omega
                refine lv_iinc (v := x_107) (lv' := [(3, .int x_107), (0, .ref o0), (1, .int p1), (2, .int p2)]) hx hb dX3_noteNeeded_79 hl (k := 0) rfl ex_107 (by decide) rfl (fun ls hl => ?_)
                refine lv_goto (tgt := 46) hx hb dX3_noteNeeded_82 (by decide) ?_
                exact ih_hloop_85 x_107 (by constructor <;> omega) f_103 hG _ _ hP hS hD hfr0 hrr1_0 hrr1_1 hrr3_0 hrr3_3 hfo_104 hT_48 (by omega) ls (lv_sub hl [0, 1, 2, 3] rfl)
              refine lv_if_ne (tgt := 79) hx hb dX3_noteNeeded_64 (by decide) (fun c_108 => ?_) (fun c_108 => ?_)
              · skip
                rw [← Int32.toInt_inj, ti_0] at c_108
                exact hcut_106 f_88 hG _ _ hP hS hD hfr0 hrr1_0 hrr1_1 hrr3_0 hrr3_3 hfo_89 hfo_99 hT_48 ls (lv_sub hl [0, 1, 2, 3] rfl)
              · skip
                rw [← Int32.toInt_inj, ti_0] at c_108
                refine lv_aload_n hx hb dX3_noteNeeded_67 rfl (lv_at hl 1 rfl) ?_
                refine tk_getP (D := (dC, dI)) (ci := 3) (v := .ref a_47) (C := RX3) (T := TX3) (N := 18) hx hb hU inlX3 hown hK hP mo0 hfo_89 rfl 17 (by decide) (hU _ wd_67) (fun _ h9 => h9) rfl dX3_noteNeeded_68 ?_
                refine lv_aload_n hx hb dX3_noteNeeded_71 rfl (lv_at hl 1 rfl) ?_
                refine tk_getP (D := (dC, dI)) (ci := 3) (v := .ref a_44) (C := RX3) (T := TX3) (N := 18) hx hb hU inlX3 hown hK hP mo0 hfo_89 rfl 14 (by decide) (hU _ wd_65) (fun _ h9 => h9) rfl dX3_noteNeeded_72 ?_
                refine lv_iload_n hx hb dX3_noteNeeded_75 rfl (lv_at hl 0 rfl) ?_
                obtain ⟨g_110, hfo_109, hbg_110⟩ := un_527 (hG _ ma_44) ka_44
                refine tk_ildP hx hb hK hP 0 ma_44 hfo_109 rfl (vp_in_iff.mpr (by constructor <;> omega)) dX3_noteNeeded_76 ?_
                refine lv_topi (fun x_111 ex_111 => ?_)
                have bx_111 : (0 ≤ x_111.toInt ∧ x_111.toInt ≤ 255) := by rw [ex_111]; exact hbg_110 _
                refine lv_iconst (v := 1) hx hb dX3_noteNeeded_77 (by decide) ?_
                obtain ⟨g_113, hfo_112, hbg_113⟩ := un_529 (hG _ ma_47) ka_47
                refine tk_istP hx hb hK hP hD hS 0 ma_47 hfo_112 rfl (vp_in_iff.mpr (by constructor <;> omega)) dX3_noteNeeded_78 (fun H locs hP hD hS => ?_)
                obtain ⟨f_115, ef_115⟩ : ∃ y : Nat → va_E, y = va_up f_88 a_47 (.inl (cI, 256, .inl (upd g_113 (Int32.toNatClampNeg x_111) 1))) := ⟨_, rfl⟩
                have hP : va_P (dC, dI) vwCl (va_pl L f_115) H := by rw [ef_115]; exact hP
                have hD : va_D (fun q => q ∈ L) (va_pl L f_115) := by rw [ef_115]; exact hD
                have hG : GI (okc cI cL cZ cR cG cH L kd) kd L f_115 := by rw [ef_115]; exact hG.set a_47 (mk_529 ka_47 ⟨_, rfl, okI_up hbg_113 ⟨i32_lo _, i32_hi _⟩ _⟩)
                have hfo_116 : f_115 o0 = .inr (3, [.ref a_2, .ref a_31, .ref a_32, .ref a_5, .ref a_34, .int v_35, .int v_36, .int v_37, .int v_38, .int v_39, .int v_40, .int v_41, .ref a_42, .ref a_43, .ref a_44, .int v_45, .ref a_46, .ref a_47]) := by rw [ef_115, up_ne (kd_ne ka_47 ko0 (by decide))]; exact hfo_89
                have hfo_117 : f_115 a_46 = .inl (cI, 6561, .inl g_100) := by rw [ef_115, up_ne (kd_ne ka_47 ka_46 (by decide))]; exact hfo_99
                have hfo_118 : f_115 a_44 = .inl (cI, 1024, .inl g_110) := by rw [ef_115, up_ne (kd_ne ka_47 ka_44 (by decide))]; exact hfo_109
                have hfr0 : ∀ b, kd b ≠ 1 → kd b ≠ 3 → kd b ≠ 10 → kd b ≠ 517 → kd b ≠ 518 → kd b ≠ 519 → kd b ≠ 520 → kd b ≠ 521 → kd b ≠ 522 → kd b ≠ 523 → kd b ≠ 524 → kd b ≠ 525 → kd b ≠ 526 → kd b ≠ 527 → kd b ≠ 528 → kd b ≠ 529 → f_115 b = f b := fun b q1 q3 q10 q517 q518 q519 q520 q521 q522 q523 q524 q525 q526 q527 q528 q529 => (congrFun ef_115 b).trans ((up_ne (fun e9 => q529 (by rw [e9]; exact ka_47))).trans (hfr0 b q1 q3 q10 q517 q518 q519 q520 q521 q522 q523 q524 q525 q526 q527 q528 q529))
                have hrr1_0 : ∀ b, kd b = 1 → fldR (f_115 b) 0 = fldR (f b) 0 := fun b kb => (congrArg (fun x => fldR x 0) ((congrFun ef_115 b).trans (up_ne (kd_ne ka_47 kb (by decide))))).trans (hrr1_0 b kb)
                have hrr1_1 : ∀ b, kd b = 1 → fldR (f_115 b) 1 = fldR (f b) 1 := fun b kb => (congrArg (fun x => fldR x 1) ((congrFun ef_115 b).trans (up_ne (kd_ne ka_47 kb (by decide))))).trans (hrr1_1 b kb)
                have hrr3_0 : ∀ b, kd b = 3 → fldR (f_115 b) 0 = fldR (f b) 0 := fun b kb => (congrArg (fun x => fldR x 0) ((congrFun ef_115 b).trans (up_ne (kd_ne ka_47 kb (by decide))))).trans (hrr3_0 b kb)
                have hrr3_3 : ∀ b, kd b = 3 → fldR (f_115 b) 3 = fldR (f b) 3 := fun b kb => (congrArg (fun x => fldR x 3) ((congrFun ef_115 b).trans (up_ne (kd_ne ka_47 kb (by decide))))).trans (hrr3_3 b kb)
                have hT_48 : drel kd 1 521 522 f_115 a_5 := by rw [ef_115]; exact hT_48.up ka_47 (by decide) (by decide) (by decide)
                have hfo_119 : f_115 a_47 = .inl (cI, 256, .inl (upd g_113 (Int32.toNatClampNeg x_111) 1)) := by rw [ef_115]; exact up_self
                exact hcut_106 f_115 hG _ _ hP hS hD hfr0 hrr1_0 hrr1_1 hrr3_0 hrr3_3 hfo_116 hfo_117 hT_48 ls (lv_sub hl [0, 1, 2, 3] rfl)
        exact hloop_85 1025 0 (by decide) f_67 hG _ _ hP hS hD hfr0 hrr1_0 hrr1_1 hrr3_0 hrr3_3 hfo_68 hT_48 (by (try rw [ti_0]) <;> omega) ls hl
      · skip
        rw [Int32.le_iff_toInt_le] at c_69
        refine lv_aload_n hx hb dX3_noteNeeded_18 rfl (lv_at hl 1 rfl) ?_
        refine tk_getP (D := (dC, dI)) (ci := 3) (v := .ref a_44) (C := RX3) (T := TX3) (N := 18) hx hb hU inlX3 hown hK hP mo0 hfo_68 rfl 14 (by decide) (hU _ wd_65) (fun _ h9 => h9) rfl dX3_noteNeeded_19 ?_
        refine lv_iload_n hx hb dX3_noteNeeded_22 rfl (lv_at hl 0 rfl) ?_
        obtain ⟨g_121, hfo_120, hbg_121⟩ := un_527 (hG _ ma_44) ka_44
        refine tk_ildP hx hb hK hP 0 ma_44 hfo_120 rfl (vp_in_iff.mpr (by constructor <;> omega)) dX3_noteNeeded_23 ?_
        refine lv_topi (fun x_122 ex_122 => ?_)
        have bx_122 : (0 ≤ x_122.toInt ∧ x_122.toInt ≤ 255) := by rw [ex_122]; exact hbg_121 _
        have hcut_127 : ∀ (f_124 : Nat → va_E), GI (okc cI cL cZ cR cG cH L kd) kd L f_124 → ∀ (H : Heap) (locs : List Loc), va_P (dC, dI) vwCl (va_pl L f_124) H → va_S (fun q => q ∈ L) s.heap H locs → va_D (fun q => q ∈ L) (va_pl L f_124) → (∀ b, kd b ≠ 1 → kd b ≠ 3 → kd b ≠ 10 → kd b ≠ 517 → kd b ≠ 518 → kd b ≠ 519 → kd b ≠ 520 → kd b ≠ 521 → kd b ≠ 522 → kd b ≠ 523 → kd b ≠ 524 → kd b ≠ 525 → kd b ≠ 526 → kd b ≠ 527 → kd b ≠ 528 → kd b ≠ 529 → f_124 b = f b) → (∀ b, kd b = 1 → fldR (f_124 b) 0 = fldR (f b) 0) → (∀ b, kd b = 1 → fldR (f_124 b) 1 = fldR (f b) 1) → (∀ b, kd b = 3 → fldR (f_124 b) 0 = fldR (f b) 0) → (∀ b, kd b = 3 → fldR (f_124 b) 3 = fldR (f b) 3) → (f_124 o0 = .inr (3, [.ref a_2, .ref a_31, .ref a_32, .ref a_5, .ref a_34, .int v_35, .int v_36, .int v_37, .int v_38, .int v_39, .int v_40, .int v_41, .ref a_42, .ref a_43, .ref a_44, .int v_45, .ref a_46, .ref a_47])) → (f_124 a_44 = .inl (cI, 1024, .inl g_121)) → drel kd 1 521 522 f_124 a_5 → ∀ (ls : Array Slot), lv_has ls 4 [(3, .int y_65), (0, .ref o0), (1, .int p1), (2, .int p2)] → W p l e (headSpec (wU yX3_noteNeeded cX3_noteNeeded 4 none) { frames := 15, cells := 0, slots := 0, locals := 518 }).room s m [.ref o0, .int p1, .int p2].toArray below meth c H locs 0 0 (MQ below (va_Qv (fun (f9 : Nat → va_E) => GI (okc cI cL cZ cR cG cH L kd) kd L f9 ∧ (∀ b, kd b ≠ 1 → kd b ≠ 3 → kd b ≠ 10 → kd b ≠ 517 → kd b ≠ 518 → kd b ≠ 519 → kd b ≠ 520 → kd b ≠ 521 → kd b ≠ 522 → kd b ≠ 523 → kd b ≠ 524 → kd b ≠ 525 → kd b ≠ 526 → kd b ≠ 527 → kd b ≠ 528 → kd b ≠ 529 → f9 b = f b) ∧ (∀ b, kd b = 1 → fldR (f9 b) 0 = fldR (f b) 0) ∧ (∀ b, kd b = 1 → fldR (f9 b) 1 = fldR (f b) 1) ∧ (∀ b, kd b = 3 → fldR (f9 b) 0 = fldR (f b) 0) ∧ (∀ b, kd b = 3 → fldR (f9 b) 3 = fldR (f b) 3) ∧ (∀ d9, fldR (f9 o0) 3 = some d9 → drel kd 1 521 522 f9 d9)) (qP (dC, dI) cI cL cZ cR cG cH L) (fun q => q ∈ L)) [.ref o0, .int p1, .int p2].toArray s 0 0 (fun q => q ∈ L)) (F0 m 38 ls []) := by
          intro f_124 hG H locs hP hS hD hfr0 hrr1_0 hrr1_1 hrr3_0 hrr3_3 hfo_125 hfo_126 hT_48 ls hl
          obtain ⟨x_128, ex_128⟩ : ∃ y : Int32, y_65 + 1 = y := ⟨_, rfl⟩
          have hx_128 : x_128.toInt = y_65.toInt + 1 := by rw [← ex_128, ad_I (by rw [ti_1]; omega) (by rw [ti_1]; omega), ti_1]
          have bx_128 : (1 ≤ x_128.toInt ∧ x_128.toInt ≤ 1024) := by constructor <;> omega
          refine lv_iinc (v := x_128) (lv' := [(3, .int x_128), (0, .ref o0), (1, .int p1), (2, .int p2)]) hx hb dX3_noteNeeded_38 hl (k := 0) rfl ex_128 (by decide) rfl (fun ls hl => ?_)
          refine lv_goto (tgt := 10) hx hb dX3_noteNeeded_41 (by decide) ?_
          exact ih_hloop_64 x_128 (by constructor <;> omega) f_124 hG _ _ hP hS hD hfr0 hrr1_0 hrr1_1 hrr3_0 hrr3_3 hfo_125 hT_48 (by omega) ls (lv_sub hl [0, 1, 2, 3] rfl)
        refine lv_if_ne (tgt := 38) hx hb dX3_noteNeeded_24 (by decide) (fun c_129 => ?_) (fun c_129 => ?_)
        · skip
          rw [← Int32.toInt_inj, ti_0] at c_129
          exact hcut_127 f_67 hG _ _ hP hS hD hfr0 hrr1_0 hrr1_1 hrr3_0 hrr3_3 hfo_68 hfo_120 hT_48 ls (lv_sub hl [0, 1, 2, 3] rfl)
        · skip
          rw [← Int32.toInt_inj, ti_0] at c_129
          refine lv_aload_n hx hb dX3_noteNeeded_27 rfl (lv_at hl 1 rfl) ?_
          refine tk_getP (D := (dC, dI)) (ci := 3) (v := .ref a_46) (C := RX3) (T := TX3) (N := 18) hx hb hU inlX3 hown hK hP mo0 hfo_68 rfl 16 (by decide) (hU _ wd_66) (fun _ h9 => h9) rfl dX3_noteNeeded_28 ?_
          refine lv_aload_n hx hb dX3_noteNeeded_31 rfl (lv_at hl 1 rfl) ?_
          refine lv_iload_n hx hb dX3_noteNeeded_32 rfl (lv_at hl 0 rfl) ?_
          refine tk_ViP (As := [.int y_65]) (rest := [.ref a_46]) (n := 1) hx hb hml hown hU hN hZ (s_X3_shortCode_k3 l (dC, dI) cI cL cZ cR cG cH Z kd L f_67 hG o0 mo0 ko0 y_65 (by constructor <;> omega)) wd_1321 wd_1322 wd_1323 wd_16 wd_1324 (by decide +kernel) ⟨Nat.le_of_ble_eq_true rfl, Nat.le_of_ble_eq_true rfl⟩ hK hP hD hS mo0 hfo_68 3 rfl rfl rfl hl.1 rfl (Nat.le_of_ble_eq_true rfl) dX3_noteNeeded_33 ⟨Nat.le_of_ble_eq_true rfl, Nat.le_of_ble_eq_true rfl⟩ (fun x_130 f_131 H locs hw hP hD hS => ?_)
          obtain ⟨rfl, bx_130⟩ := hw
          refine lv_iconst (v := 1) hx hb dX3_noteNeeded_36 (by decide) ?_
          obtain ⟨g_134, hfo_133, hbg_134⟩ := un_528 (hG _ ma_46) ka_46
          refine tk_istP hx hb hK hP hD hS 0 ma_46 hfo_133 rfl (vp_in_iff.mpr (by constructor <;> omega)) dX3_noteNeeded_37 (fun H locs hP hD hS => ?_)
          obtain ⟨f_136, ef_136⟩ : ∃ y : Nat → va_E, y = va_up f_67 a_46 (.inl (cI, 6561, .inl (upd g_134 (Int32.toNatClampNeg x_130) 1))) := ⟨_, rfl⟩
          have hP : va_P (dC, dI) vwCl (va_pl L f_136) H := by rw [ef_136]; exact hP
          have hD : va_D (fun q => q ∈ L) (va_pl L f_136) := by rw [ef_136]; exact hD
          have hG : GI (okc cI cL cZ cR cG cH L kd) kd L f_136 := by rw [ef_136]; exact hG.set a_46 (mk_528 ka_46 ⟨_, rfl, okI_up hbg_134 ⟨i32_lo _, i32_hi _⟩ _⟩)
          have hfo_137 : f_136 o0 = .inr (3, [.ref a_2, .ref a_31, .ref a_32, .ref a_5, .ref a_34, .int v_35, .int v_36, .int v_37, .int v_38, .int v_39, .int v_40, .int v_41, .ref a_42, .ref a_43, .ref a_44, .int v_45, .ref a_46, .ref a_47]) := by rw [ef_136, up_ne (kd_ne ka_46 ko0 (by decide))]; exact hfo_68
          have hfo_138 : f_136 a_44 = .inl (cI, 1024, .inl g_121) := by rw [ef_136, up_ne (kd_ne ka_46 ka_44 (by decide))]; exact hfo_120
          have hfr0 : ∀ b, kd b ≠ 1 → kd b ≠ 3 → kd b ≠ 10 → kd b ≠ 517 → kd b ≠ 518 → kd b ≠ 519 → kd b ≠ 520 → kd b ≠ 521 → kd b ≠ 522 → kd b ≠ 523 → kd b ≠ 524 → kd b ≠ 525 → kd b ≠ 526 → kd b ≠ 527 → kd b ≠ 528 → kd b ≠ 529 → f_136 b = f b := fun b q1 q3 q10 q517 q518 q519 q520 q521 q522 q523 q524 q525 q526 q527 q528 q529 => (congrFun ef_136 b).trans ((up_ne (fun e9 => q528 (by rw [e9]; exact ka_46))).trans (hfr0 b q1 q3 q10 q517 q518 q519 q520 q521 q522 q523 q524 q525 q526 q527 q528 q529))
          have hrr1_0 : ∀ b, kd b = 1 → fldR (f_136 b) 0 = fldR (f b) 0 := fun b kb => (congrArg (fun x => fldR x 0) ((congrFun ef_136 b).trans (up_ne (kd_ne ka_46 kb (by decide))))).trans (hrr1_0 b kb)
          have hrr1_1 : ∀ b, kd b = 1 → fldR (f_136 b) 1 = fldR (f b) 1 := fun b kb => (congrArg (fun x => fldR x 1) ((congrFun ef_136 b).trans (up_ne (kd_ne ka_46 kb (by decide))))).trans (hrr1_1 b kb)
          have hrr3_0 : ∀ b, kd b = 3 → fldR (f_136 b) 0 = fldR (f b) 0 := fun b kb => (congrArg (fun x => fldR x 0) ((congrFun ef_136 b).trans (up_ne (kd_ne ka_46 kb (by decide))))).trans (hrr3_0 b kb)
          have hrr3_3 : ∀ b, kd b = 3 → fldR (f_136 b) 3 = fldR (f b) 3 := fun b kb => (congrArg (fun x => fldR x 3) ((congrFun ef_136 b).trans (up_ne (kd_ne ka_46 kb (by decide))))).trans (hrr3_3 b kb)
          have hT_48 : drel kd 1 521 522 f_136 a_5 := by rw [ef_136]; exact hT_48.up ka_46 (by decide) (by decide) (by decide)
          have hfo_139 : f_136 a_46 = .inl (cI, 6561, .inl (upd g_134 (Int32.toNatClampNeg x_130) 1)) := by rw [ef_136]; exact up_self
          exact hcut_127 f_136 hG _ _ hP hS hD hfr0 hrr1_0 hrr1_1 hrr3_0 hrr3_3 hfo_137 hfo_138 hT_48 ls (lv_sub hl [0, 1, 2, 3] rfl)
  exact hloop_64 1025 0 (by decide) f_21 hG _ _ hP hS hD hfr0 hrr1_0 hrr1_1 hrr3_0 hrr3_3 hfo_29 hT_48 (by (try rw [ti_0]) <;> omega) ls hl
