set_option maxHeartbeats 8000000 in
set_option maxRecDepth 100000 in
theorem s_X4_copyFrom_k104_k4 (l : Launch) (D : va_G) (cI cL cZ cR cG cH : ClassId) (Z : zT) (kd : Nat → Nat) (L : List Nat) (f : Nat → va_E) (hG : GI (okc cI cL cZ cR cG cH L kd) kd L f) (o0 : Nat) (mo0 : o0 ∈ L) (ko0 : kd o0 = 104) (o1 : Nat) (mo1 : o1 ∈ L) (ko1 : kd o1 = 4) : mPV l D cI cL cZ cR cG cH Z yX4_copyFrom cX4_copyFrom 2 none 2 61 [.ref o0, .ref o1] L f (fun (f9 : Nat → va_E) => GI (okc cI cL cZ cR cG cH L kd) kd L f9 ∧ (∀ b, kd b ≠ 104 → kd b ≠ 105 → kd b ≠ 541 → kd b ≠ 542 → kd b ≠ 543 → kd b ≠ 544 → f9 b = f b)) := by
  obtain ⟨dC, dI⟩ := D
  refine Met.ofW (cc := cX4_copyFrom) (maxL := 2) (ret := none) (by decide) rfl ?_
  intro p e s m args below meth c s₁ B hml hv
  obtain ⟨rfl, hP, hK, hD0, hN, hZ⟩ := hv
  have hx := B.exec
  have hb := B.bytes
  have hr := B.returns
  have hU : ∀ w ∈ wsU, w.before _ s = true := fun w h => atoms_spec (ws := wU yX4_copyFrom cX4_copyFrom 2 none) B.pre w (List.mem_cons_of_mem _ h)
  have hown : s.vm.findClass RX4 = some m.cls := findClass_of_methodNamed B.named
  have hlocks := B.notSynchronized
  have hD := pl_in hD0
  have hS : va_S (fun q => q ∈ L) s.heap s.heap [] := va_S.rf
  have hl := lv_entry ([.ref o0, .ref o1]) (n := 2) (Nat.le_of_ble_eq_true rfl)
  rw [lg_entry_eq]
  generalize (lg_sl ([.ref o0, .ref o1]) ++ List.replicate (2 - (lg_sl ([.ref o0, .ref o1])).length) Slot.unset).toArray = ls at hl ⊢
  have hl : lv_has ls 2 [(0, .ref o0), (1, .ref o1)] := hl
  have hfr0 : ∀ b, kd b ≠ 104 → kd b ≠ 105 → kd b ≠ 541 → kd b ≠ 542 → kd b ≠ 543 → kd b ≠ 544 → f b = f b := fun _ _ _ _ _ _ _ => rfl
  refine lv_aload_n hx hb dX4_copyFrom_0 rfl (lv_at hl 0 rfl) ?_
  refine lv_aload_n hx hb dX4_copyFrom_1 rfl (lv_at hl 1 rfl) ?_
  obtain ⟨v_2, v_3, v_4, v_5, a_6, a_7, a_8, a_9, v_10, v_11, v_12, hfo_1, bv_2, bv_3, bv_4, bv_5, ⟨ma_6, ka_6⟩, ⟨ma_7, ka_7⟩, ⟨ma_8, ka_8⟩, ⟨ma_9, ka_9⟩⟩ := un_4 (hG _ mo1) ko1
  have bv_10 : ((-2147483648) ≤ v_10.toInt ∧ v_10.toInt ≤ 2147483647) := ⟨i32_lo _, i32_hi _⟩
  have bv_11 : ((-2147483648) ≤ v_11.toInt ∧ v_11.toInt ≤ 2147483647) := ⟨i32_lo _, i32_hi _⟩
  have bv_12 : ((-2147483648) ≤ v_12.toInt ∧ v_12.toInt ≤ 2147483647) := ⟨i32_lo _, i32_hi _⟩
  refine tk_getP (D := (dC, dI)) (ci := 4) (v := .int v_2) (C := RX4) (T := TX4) (N := 11) hx hb hU inlX4 hown hK hP mo1 hfo_1 rfl 0 (by decide) (hU _ wd_407) (fun _ h9 => h9) rfl dX4_copyFrom_2 ?_
  obtain ⟨v_14, v_15, v_16, v_17, a_18, a_19, a_20, a_21, v_22, v_23, v_24, hfo_13, bv_14, bv_15, bv_16, bv_17, ⟨ma_18, ka_18⟩, ⟨ma_19, ka_19⟩, ⟨ma_20, ka_20⟩, ⟨ma_21, ka_21⟩⟩ := un_104 (hG _ mo0) ko0
  have bv_22 : ((-2147483648) ≤ v_22.toInt ∧ v_22.toInt ≤ 2147483647) := ⟨i32_lo _, i32_hi _⟩
  have bv_23 : ((-2147483648) ≤ v_23.toInt ∧ v_23.toInt ≤ 2147483647) := ⟨i32_lo _, i32_hi _⟩
  have bv_24 : ((-2147483648) ≤ v_24.toInt ∧ v_24.toInt ≤ 2147483647) := ⟨i32_lo _, i32_hi _⟩
  refine tk_putP (D := (dC, dI)) (ci := 4) (v := .int v_2) (ty := .int) (C := RX4) (T := TX4) (N := 11) hx hb hU inlX4 tyX4 tyX4_ok nmX4 hown hK hP hD hS mo0 hfo_13 rfl 0 (by decide) (hU _ wd_407) (fun _ h9 => h9) rfl (by decide +kernel) rfl rfl (Nat.le_of_ble_eq_true rfl) dX4_copyFrom_5 (fun H locs hP hD hS => ?_)
  obtain ⟨f_26, ef_26⟩ : ∃ y : Nat → va_E, y = va_up f o0 (.inr (4, [.int v_2, .int v_15, .int v_16, .int v_17, .ref a_18, .ref a_19, .ref a_20, .ref a_21, .int v_22, .int v_23, .int v_24])) := ⟨_, rfl⟩
  have hP : va_P (dC, dI) vwCl (va_pl L f_26) H := by rw [ef_26]; exact hP
  have hD : va_D (fun q => q ∈ L) (va_pl L f_26) := by rw [ef_26]; exact hD
  have hG : GI (okc cI cL cZ cR cG cH L kd) kd L f_26 := by rw [ef_26]; exact hG.set o0 (mk_104 ko0 ⟨v_2, v_15, v_16, v_17, a_18, a_19, a_20, a_21, v_22, v_23, v_24, rfl, (by constructor <;> omega), (by constructor <;> omega), (by constructor <;> omega), (by constructor <;> omega), ⟨ma_18, ka_18⟩, ⟨ma_19, ka_19⟩, ⟨ma_20, ka_20⟩, ⟨ma_21, ka_21⟩⟩)
  have hfo_27 : f_26 o1 = .inr (4, [.int v_2, .int v_3, .int v_4, .int v_5, .ref a_6, .ref a_7, .ref a_8, .ref a_9, .int v_10, .int v_11, .int v_12]) := by rw [ef_26, up_ne (kd_ne ko0 ko1 (by decide))]; exact hfo_1
  have hfr0 : ∀ b, kd b ≠ 104 → kd b ≠ 105 → kd b ≠ 541 → kd b ≠ 542 → kd b ≠ 543 → kd b ≠ 544 → f_26 b = f b := fun b q104 q105 q541 q542 q543 q544 => (congrFun ef_26 b).trans ((up_ne (fun e9 => q104 (by rw [e9]; exact ko0))).trans (hfr0 b q104 q105 q541 q542 q543 q544))
  have hfo_28 : f_26 o0 = .inr (4, [.int v_2, .int v_15, .int v_16, .int v_17, .ref a_18, .ref a_19, .ref a_20, .ref a_21, .int v_22, .int v_23, .int v_24]) := by rw [ef_26]; exact up_self
  refine lv_aload_n hx hb dX4_copyFrom_8 rfl (lv_at hl 0 rfl) ?_
  refine lv_aload_n hx hb dX4_copyFrom_9 rfl (lv_at hl 1 rfl) ?_
  refine tk_getP (D := (dC, dI)) (ci := 4) (v := .int v_3) (C := RX4) (T := TX4) (N := 11) hx hb hU inlX4 hown hK hP mo1 hfo_27 rfl 1 (by decide) (hU _ wd_408) (fun _ h9 => h9) rfl dX4_copyFrom_10 ?_
  refine tk_putP (D := (dC, dI)) (ci := 4) (v := .int v_3) (ty := .int) (C := RX4) (T := TX4) (N := 11) hx hb hU inlX4 tyX4 tyX4_ok nmX4 hown hK hP hD hS mo0 hfo_28 rfl 1 (by decide) (hU _ wd_408) (fun _ h9 => h9) rfl (by decide +kernel) rfl rfl (Nat.le_of_ble_eq_true rfl) dX4_copyFrom_13 (fun H locs hP hD hS => ?_)
  obtain ⟨f_30, ef_30⟩ : ∃ y : Nat → va_E, y = va_up f_26 o0 (.inr (4, [.int v_2, .int v_3, .int v_16, .int v_17, .ref a_18, .ref a_19, .ref a_20, .ref a_21, .int v_22, .int v_23, .int v_24])) := ⟨_, rfl⟩
  have hP : va_P (dC, dI) vwCl (va_pl L f_30) H := by rw [ef_30]; exact hP
  have hD : va_D (fun q => q ∈ L) (va_pl L f_30) := by rw [ef_30]; exact hD
  have hG : GI (okc cI cL cZ cR cG cH L kd) kd L f_30 := by rw [ef_30]; exact hG.set o0 (mk_104 ko0 ⟨v_2, v_3, v_16, v_17, a_18, a_19, a_20, a_21, v_22, v_23, v_24, rfl, (by constructor <;> omega), (by constructor <;> omega), (by constructor <;> omega), (by constructor <;> omega), ⟨ma_18, ka_18⟩, ⟨ma_19, ka_19⟩, ⟨ma_20, ka_20⟩, ⟨ma_21, ka_21⟩⟩)
  have hfo_31 : f_30 o1 = .inr (4, [.int v_2, .int v_3, .int v_4, .int v_5, .ref a_6, .ref a_7, .ref a_8, .ref a_9, .int v_10, .int v_11, .int v_12]) := by rw [ef_30, up_ne (kd_ne ko0 ko1 (by decide))]; exact hfo_27
  have hfr0 : ∀ b, kd b ≠ 104 → kd b ≠ 105 → kd b ≠ 541 → kd b ≠ 542 → kd b ≠ 543 → kd b ≠ 544 → f_30 b = f b := fun b q104 q105 q541 q542 q543 q544 => (congrFun ef_30 b).trans ((up_ne (fun e9 => q104 (by rw [e9]; exact ko0))).trans (hfr0 b q104 q105 q541 q542 q543 q544))
  have hfo_32 : f_30 o0 = .inr (4, [.int v_2, .int v_3, .int v_16, .int v_17, .ref a_18, .ref a_19, .ref a_20, .ref a_21, .int v_22, .int v_23, .int v_24]) := by rw [ef_30]; exact up_self
  refine lv_aload_n hx hb dX4_copyFrom_16 rfl (lv_at hl 0 rfl) ?_
  refine lv_aload_n hx hb dX4_copyFrom_17 rfl (lv_at hl 1 rfl) ?_
  refine tk_getP (D := (dC, dI)) (ci := 4) (v := .int v_4) (C := RX4) (T := TX4) (N := 11) hx hb hU inlX4 hown hK hP mo1 hfo_31 rfl 2 (by decide) (hU _ wd_409) (fun _ h9 => h9) rfl dX4_copyFrom_18 ?_
  refine tk_putP (D := (dC, dI)) (ci := 4) (v := .int v_4) (ty := .int) (C := RX4) (T := TX4) (N := 11) hx hb hU inlX4 tyX4 tyX4_ok nmX4 hown hK hP hD hS mo0 hfo_32 rfl 2 (by decide) (hU _ wd_409) (fun _ h9 => h9) rfl (by decide +kernel) rfl rfl (Nat.le_of_ble_eq_true rfl) dX4_copyFrom_21 (fun H locs hP hD hS => ?_)
  obtain ⟨f_34, ef_34⟩ : ∃ y : Nat → va_E, y = va_up f_30 o0 (.inr (4, [.int v_2, .int v_3, .int v_4, .int v_17, .ref a_18, .ref a_19, .ref a_20, .ref a_21, .int v_22, .int v_23, .int v_24])) := ⟨_, rfl⟩
  have hP : va_P (dC, dI) vwCl (va_pl L f_34) H := by rw [ef_34]; exact hP
  have hD : va_D (fun q => q ∈ L) (va_pl L f_34) := by rw [ef_34]; exact hD
  have hG : GI (okc cI cL cZ cR cG cH L kd) kd L f_34 := by rw [ef_34]; exact hG.set o0 (mk_104 ko0 ⟨v_2, v_3, v_4, v_17, a_18, a_19, a_20, a_21, v_22, v_23, v_24, rfl, (by constructor <;> omega), (by constructor <;> omega), (by constructor <;> omega), (by constructor <;> omega), ⟨ma_18, ka_18⟩, ⟨ma_19, ka_19⟩, ⟨ma_20, ka_20⟩, ⟨ma_21, ka_21⟩⟩)
  have hfo_35 : f_34 o1 = .inr (4, [.int v_2, .int v_3, .int v_4, .int v_5, .ref a_6, .ref a_7, .ref a_8, .ref a_9, .int v_10, .int v_11, .int v_12]) := by rw [ef_34, up_ne (kd_ne ko0 ko1 (by decide))]; exact hfo_31
  have hfr0 : ∀ b, kd b ≠ 104 → kd b ≠ 105 → kd b ≠ 541 → kd b ≠ 542 → kd b ≠ 543 → kd b ≠ 544 → f_34 b = f b := fun b q104 q105 q541 q542 q543 q544 => (congrFun ef_34 b).trans ((up_ne (fun e9 => q104 (by rw [e9]; exact ko0))).trans (hfr0 b q104 q105 q541 q542 q543 q544))
  have hfo_36 : f_34 o0 = .inr (4, [.int v_2, .int v_3, .int v_4, .int v_17, .ref a_18, .ref a_19, .ref a_20, .ref a_21, .int v_22, .int v_23, .int v_24]) := by rw [ef_34]; exact up_self
  refine lv_aload_n hx hb dX4_copyFrom_24 rfl (lv_at hl 0 rfl) ?_
  refine lv_aload_n hx hb dX4_copyFrom_25 rfl (lv_at hl 1 rfl) ?_
  refine tk_getP (D := (dC, dI)) (ci := 4) (v := .int v_5) (C := RX4) (T := TX4) (N := 11) hx hb hU inlX4 hown hK hP mo1 hfo_35 rfl 3 (by decide) (hU _ wd_410) (fun _ h9 => h9) rfl dX4_copyFrom_26 ?_
  refine tk_putP (D := (dC, dI)) (ci := 4) (v := .int v_5) (ty := .int) (C := RX4) (T := TX4) (N := 11) hx hb hU inlX4 tyX4 tyX4_ok nmX4 hown hK hP hD hS mo0 hfo_36 rfl 3 (by decide) (hU _ wd_410) (fun _ h9 => h9) rfl (by decide +kernel) rfl rfl (Nat.le_of_ble_eq_true rfl) dX4_copyFrom_29 (fun H locs hP hD hS => ?_)
  obtain ⟨f_38, ef_38⟩ : ∃ y : Nat → va_E, y = va_up f_34 o0 (.inr (4, [.int v_2, .int v_3, .int v_4, .int v_5, .ref a_18, .ref a_19, .ref a_20, .ref a_21, .int v_22, .int v_23, .int v_24])) := ⟨_, rfl⟩
  have hP : va_P (dC, dI) vwCl (va_pl L f_38) H := by rw [ef_38]; exact hP
  have hD : va_D (fun q => q ∈ L) (va_pl L f_38) := by rw [ef_38]; exact hD
  have hG : GI (okc cI cL cZ cR cG cH L kd) kd L f_38 := by rw [ef_38]; exact hG.set o0 (mk_104 ko0 ⟨v_2, v_3, v_4, v_5, a_18, a_19, a_20, a_21, v_22, v_23, v_24, rfl, (by constructor <;> omega), (by constructor <;> omega), (by constructor <;> omega), (by constructor <;> omega), ⟨ma_18, ka_18⟩, ⟨ma_19, ka_19⟩, ⟨ma_20, ka_20⟩, ⟨ma_21, ka_21⟩⟩)
  have hfo_39 : f_38 o1 = .inr (4, [.int v_2, .int v_3, .int v_4, .int v_5, .ref a_6, .ref a_7, .ref a_8, .ref a_9, .int v_10, .int v_11, .int v_12]) := by rw [ef_38, up_ne (kd_ne ko0 ko1 (by decide))]; exact hfo_35
  have hfr0 : ∀ b, kd b ≠ 104 → kd b ≠ 105 → kd b ≠ 541 → kd b ≠ 542 → kd b ≠ 543 → kd b ≠ 544 → f_38 b = f b := fun b q104 q105 q541 q542 q543 q544 => (congrFun ef_38 b).trans ((up_ne (fun e9 => q104 (by rw [e9]; exact ko0))).trans (hfr0 b q104 q105 q541 q542 q543 q544))
  have hfo_40 : f_38 o0 = .inr (4, [.int v_2, .int v_3, .int v_4, .int v_5, .ref a_18, .ref a_19, .ref a_20, .ref a_21, .int v_22, .int v_23, .int v_24]) := by rw [ef_38]; exact up_self
  refine lv_aload_n hx hb dX4_copyFrom_32 rfl (lv_at hl 0 rfl) ?_
  refine tk_getP (D := (dC, dI)) (ci := 4) (v := .ref a_18) (C := RX4) (T := TX4) (N := 11) hx hb hU inlX4 hown hK hP mo0 hfo_40 rfl 4 (by decide) (hU _ wd_103) (fun _ h9 => h9) rfl dX4_copyFrom_33 ?_
  refine lv_aload_n hx hb dX4_copyFrom_36 rfl (lv_at hl 1 rfl) ?_
  refine tk_getP (D := (dC, dI)) (ci := 4) (v := .ref a_6) (C := RX4) (T := TX4) (N := 11) hx hb hU inlX4 hown hK hP mo1 hfo_39 rfl 4 (by decide) (hU _ wd_103) (fun _ h9 => h9) rfl dX4_copyFrom_37 ?_
  obtain ⟨a_42, a_43, a_44, v_45, v_46, v_47, hfo_41, ⟨ma_42, ka_42⟩, ⟨ma_43, ka_43⟩, ⟨ma_44, ka_44⟩⟩ := un_105 (hG _ ma_18) ka_18
  have bv_45 : ((-2147483648) ≤ v_45.toInt ∧ v_45.toInt ≤ 2147483647) := ⟨i32_lo _, i32_hi _⟩
  have bv_46 : ((-2147483648) ≤ v_46.toInt ∧ v_46.toInt ≤ 2147483647) := ⟨i32_lo _, i32_hi _⟩
  have bv_47 : ((-2147483648) ≤ v_47.toInt ∧ v_47.toInt ≤ 2147483647) := ⟨i32_lo _, i32_hi _⟩
  refine tk_VvP (As := [.ref a_6]) (rest := []) (n := 1) hx hb hml hown hU hN hZ (s_X5_copyFrom_k105_k5 l (dC, dI) cI cL cZ cR cG cH Z kd L f_38 hG a_18 ma_18 ka_18 a_6 ma_6 ka_6) wd_540 wd_541 wd_542 wd_102 wd_543 (by decide +kernel) ⟨Nat.le_of_ble_eq_true rfl, Nat.le_of_ble_eq_true rfl⟩ hK hP hD hS ma_18 hfo_41 5 rfl rfl rfl hl.1 rfl (Nat.le_of_ble_eq_true rfl) dX4_copyFrom_40 ⟨Nat.le_of_ble_eq_true rfl, Nat.le_of_ble_eq_true rfl⟩ (fun f_49 H locs hw hP hD hS => ?_)
  obtain ⟨hG, hkc_50⟩ := hw
  have hfo_52 : f_49 o1 = .inr (4, [.int v_2, .int v_3, .int v_4, .int v_5, .ref a_6, .ref a_7, .ref a_8, .ref a_9, .int v_10, .int v_11, .int v_12]) := by rw [hkc_50 o1 (by rw [ko1]; decide) (by rw [ko1]; decide) (by rw [ko1]; decide)]; exact hfo_39
  have hfo_53 : f_49 o0 = .inr (4, [.int v_2, .int v_3, .int v_4, .int v_5, .ref a_18, .ref a_19, .ref a_20, .ref a_21, .int v_22, .int v_23, .int v_24]) := by rw [hkc_50 o0 (by rw [ko0]; decide) (by rw [ko0]; decide) (by rw [ko0]; decide)]; exact hfo_40
  have hfr0 : ∀ b, kd b ≠ 104 → kd b ≠ 105 → kd b ≠ 541 → kd b ≠ 542 → kd b ≠ 543 → kd b ≠ 544 → f_49 b = f b := fun b q104 q105 q541 q542 q543 q544 => (hkc_50 b q105 q541 q542).trans (hfr0 b q104 q105 q541 q542 q543 q544)
  refine lv_aload_n hx hb dX4_copyFrom_43 rfl (lv_at hl 0 rfl) ?_
  refine tk_getP (D := (dC, dI)) (ci := 4) (v := .ref a_19) (C := RX4) (T := TX4) (N := 11) hx hb hU inlX4 hown hK hP mo0 hfo_53 rfl 5 (by decide) (hU _ wd_104) (fun _ h9 => h9) rfl dX4_copyFrom_44 ?_
  refine lv_aload_n hx hb dX4_copyFrom_47 rfl (lv_at hl 1 rfl) ?_
  refine tk_getP (D := (dC, dI)) (ci := 4) (v := .ref a_7) (C := RX4) (T := TX4) (N := 11) hx hb hU inlX4 hown hK hP mo1 hfo_52 rfl 5 (by decide) (hU _ wd_104) (fun _ h9 => h9) rfl dX4_copyFrom_48 ?_
  obtain ⟨a_55, a_56, a_57, v_58, v_59, v_60, hfo_54, ⟨ma_55, ka_55⟩, ⟨ma_56, ka_56⟩, ⟨ma_57, ka_57⟩⟩ := un_105 (hG _ ma_19) ka_19
  have bv_58 : ((-2147483648) ≤ v_58.toInt ∧ v_58.toInt ≤ 2147483647) := ⟨i32_lo _, i32_hi _⟩
  have bv_59 : ((-2147483648) ≤ v_59.toInt ∧ v_59.toInt ≤ 2147483647) := ⟨i32_lo _, i32_hi _⟩
  have bv_60 : ((-2147483648) ≤ v_60.toInt ∧ v_60.toInt ≤ 2147483647) := ⟨i32_lo _, i32_hi _⟩
  refine tk_VvP (As := [.ref a_7]) (rest := []) (n := 1) hx hb hml hown hU hN hZ (s_X5_copyFrom_k105_k5 l (dC, dI) cI cL cZ cR cG cH Z kd L f_49 hG a_19 ma_19 ka_19 a_7 ma_7 ka_7) wd_540 wd_541 wd_542 wd_102 wd_543 (by decide +kernel) ⟨Nat.le_of_ble_eq_true rfl, Nat.le_of_ble_eq_true rfl⟩ hK hP hD hS ma_19 hfo_54 5 rfl rfl rfl hl.1 rfl (Nat.le_of_ble_eq_true rfl) dX4_copyFrom_51 ⟨Nat.le_of_ble_eq_true rfl, Nat.le_of_ble_eq_true rfl⟩ (fun f_62 H locs hw hP hD hS => ?_)
  obtain ⟨hG, hkc_63⟩ := hw
  have hfo_65 : f_62 o1 = .inr (4, [.int v_2, .int v_3, .int v_4, .int v_5, .ref a_6, .ref a_7, .ref a_8, .ref a_9, .int v_10, .int v_11, .int v_12]) := by rw [hkc_63 o1 (by rw [ko1]; decide) (by rw [ko1]; decide) (by rw [ko1]; decide)]; exact hfo_52
  have hfo_66 : f_62 o0 = .inr (4, [.int v_2, .int v_3, .int v_4, .int v_5, .ref a_18, .ref a_19, .ref a_20, .ref a_21, .int v_22, .int v_23, .int v_24]) := by rw [hkc_63 o0 (by rw [ko0]; decide) (by rw [ko0]; decide) (by rw [ko0]; decide)]; exact hfo_53
  have hfr0 : ∀ b, kd b ≠ 104 → kd b ≠ 105 → kd b ≠ 541 → kd b ≠ 542 → kd b ≠ 543 → kd b ≠ 544 → f_62 b = f b := fun b q104 q105 q541 q542 q543 q544 => (hkc_63 b q105 q541 q542).trans (hfr0 b q104 q105 q541 q542 q543 q544)
  refine lv_aload_n hx hb dX4_copyFrom_54 rfl (lv_at hl 1 rfl) ?_
  refine tk_getP (D := (dC, dI)) (ci := 4) (v := .ref a_8) (C := RX4) (T := TX4) (N := 11) hx hb hU inlX4 hown hK hP mo1 hfo_65 rfl 6 (by decide) (hU _ wd_105) (fun _ h9 => h9) rfl dX4_copyFrom_55 ?_
  refine lv_iconst (v := 0) hx hb dX4_copyFrom_58 (by decide) ?_
  refine lv_aload_n hx hb dX4_copyFrom_59 rfl (lv_at hl 0 rfl) ?_
  refine tk_getP (D := (dC, dI)) (ci := 4) (v := .ref a_20) (C := RX4) (T := TX4) (N := 11) hx hb hU inlX4 hown hK hP mo0 hfo_66 rfl 6 (by decide) (hU _ wd_105) (fun _ h9 => h9) rfl dX4_copyFrom_60 ?_
  refine lv_iconst (v := 0) hx hb dX4_copyFrom_63 (by decide) ?_
  refine lv_aload_n hx hb dX4_copyFrom_64 rfl (lv_at hl 0 rfl) ?_
  refine tk_getP (D := (dC, dI)) (ci := 4) (v := .ref a_20) (C := RX4) (T := TX4) (N := 11) hx hb hU inlX4 hown hK hP mo0 hfo_66 rfl 6 (by decide) (hU _ wd_105) (fun _ h9 => h9) rfl dX4_copyFrom_65 ?_
  obtain ⟨g_68, hfo_67, hbg_68⟩ := un_543 (hG _ ma_20) ka_20
  refine tk_alenP (v := 20) hx hb hK hP 0 ma_20 hfo_67 rfl rfl dX4_copyFrom_68 ?_
  obtain ⟨g_70, hfo_69, hbg_70⟩ := un_502 (hG _ ma_8) ka_8
  refine tk_copyP hx hb (by rw [hml]; exact hl.1.symm) hown (hU _ wd_539) (hU _ wd_253) (hU _ wd_254) (hU _ wd_255) hK hP hD hS 0 ma_8 ma_20 hfo_69 hfo_67 rfl (by decide) (by decide) (by decide) (by decide) (by decide) (Nat.le_of_ble_eq_true rfl) (Nat.le_of_ble_eq_true rfl) dX4_copyFrom_69 (fun H locs hP hD hS => ?_)
  obtain ⟨f_72, ef_72⟩ : ∃ y : Nat → va_E, y = va_up f_62 a_20 (.inl (cI, 20, .inl (va_cpy g_70 g_68 (Int32.toNatClampNeg 0) (Int32.toNatClampNeg 0) (Int32.toNatClampNeg 20)))) := ⟨_, rfl⟩
  have hP : va_P (dC, dI) vwCl (va_pl L f_72) H := by rw [ef_72]; exact hP
  have hD : va_D (fun q => q ∈ L) (va_pl L f_72) := by rw [ef_72]; exact hD
  have hG : GI (okc cI cL cZ cR cG cH L kd) kd L f_72 := by rw [ef_72]; exact hG.set a_20 (mk_543 ka_20 ⟨_, rfl, okI_cpy (fun j => by have := hbg_70 j; constructor <;> omega) hbg_68 _ _ _⟩)
  have hfo_73 : f_72 o1 = .inr (4, [.int v_2, .int v_3, .int v_4, .int v_5, .ref a_6, .ref a_7, .ref a_8, .ref a_9, .int v_10, .int v_11, .int v_12]) := by rw [ef_72, up_ne (kd_ne ka_20 ko1 (by decide))]; exact hfo_65
  have hfo_74 : f_72 o0 = .inr (4, [.int v_2, .int v_3, .int v_4, .int v_5, .ref a_18, .ref a_19, .ref a_20, .ref a_21, .int v_22, .int v_23, .int v_24]) := by rw [ef_72, up_ne (kd_ne ka_20 ko0 (by decide))]; exact hfo_66
  have hfo_75 : f_72 a_8 = .inl (cI, 20, .inl g_70) := by rw [ef_72, up_ne (kd_ne ka_20 ka_8 (by decide))]; exact hfo_69
  have hfr0 : ∀ b, kd b ≠ 104 → kd b ≠ 105 → kd b ≠ 541 → kd b ≠ 542 → kd b ≠ 543 → kd b ≠ 544 → f_72 b = f b := fun b q104 q105 q541 q542 q543 q544 => (congrFun ef_72 b).trans ((up_ne (fun e9 => q543 (by rw [e9]; exact ka_20))).trans (hfr0 b q104 q105 q541 q542 q543 q544))
  have hfo_76 : f_72 a_20 = .inl (cI, 20, .inl (va_cpy g_70 g_68 (Int32.toNatClampNeg 0) (Int32.toNatClampNeg 0) (Int32.toNatClampNeg 20))) := by rw [ef_72]; exact up_self
  refine lv_aload_n hx hb dX4_copyFrom_72 rfl (lv_at hl 1 rfl) ?_
  refine tk_getP (D := (dC, dI)) (ci := 4) (v := .ref a_9) (C := RX4) (T := TX4) (N := 11) hx hb hU inlX4 hown hK hP mo1 hfo_73 rfl 7 (by decide) (hU _ wd_106) (fun _ h9 => h9) rfl dX4_copyFrom_73 ?_
  refine lv_iconst (v := 0) hx hb dX4_copyFrom_76 (by decide) ?_
  refine lv_aload_n hx hb dX4_copyFrom_77 rfl (lv_at hl 0 rfl) ?_
  refine tk_getP (D := (dC, dI)) (ci := 4) (v := .ref a_21) (C := RX4) (T := TX4) (N := 11) hx hb hU inlX4 hown hK hP mo0 hfo_74 rfl 7 (by decide) (hU _ wd_106) (fun _ h9 => h9) rfl dX4_copyFrom_78 ?_
  refine lv_iconst (v := 0) hx hb dX4_copyFrom_81 (by decide) ?_
  refine lv_aload_n hx hb dX4_copyFrom_82 rfl (lv_at hl 0 rfl) ?_
  refine tk_getP (D := (dC, dI)) (ci := 4) (v := .ref a_21) (C := RX4) (T := TX4) (N := 11) hx hb hU inlX4 hown hK hP mo0 hfo_74 rfl 7 (by decide) (hU _ wd_106) (fun _ h9 => h9) rfl dX4_copyFrom_83 ?_
  obtain ⟨g_78, hfo_77, hbg_78⟩ := un_544 (hG _ ma_21) ka_21
  refine tk_alenP (v := 8) hx hb hK hP 0 ma_21 hfo_77 rfl rfl dX4_copyFrom_86 ?_
  obtain ⟨g_80, hfo_79, hbg_80⟩ := un_503 (hG _ ma_9) ka_9
  refine tk_copyP hx hb (by rw [hml]; exact hl.1.symm) hown (hU _ wd_539) (hU _ wd_253) (hU _ wd_254) (hU _ wd_255) hK hP hD hS 0 ma_9 ma_21 hfo_79 hfo_77 rfl (by decide) (by decide) (by decide) (by decide) (by decide) (Nat.le_of_ble_eq_true rfl) (Nat.le_of_ble_eq_true rfl) dX4_copyFrom_87 (fun H locs hP hD hS => ?_)
  obtain ⟨f_82, ef_82⟩ : ∃ y : Nat → va_E, y = va_up f_72 a_21 (.inl (cI, 8, .inl (va_cpy g_80 g_78 (Int32.toNatClampNeg 0) (Int32.toNatClampNeg 0) (Int32.toNatClampNeg 8)))) := ⟨_, rfl⟩
  have hP : va_P (dC, dI) vwCl (va_pl L f_82) H := by rw [ef_82]; exact hP
  have hD : va_D (fun q => q ∈ L) (va_pl L f_82) := by rw [ef_82]; exact hD
  have hG : GI (okc cI cL cZ cR cG cH L kd) kd L f_82 := by rw [ef_82]; exact hG.set a_21 (mk_544 ka_21 ⟨_, rfl, okI_cpy (fun j => by have := hbg_80 j; constructor <;> omega) hbg_78 _ _ _⟩)
  have hfo_83 : f_82 o1 = .inr (4, [.int v_2, .int v_3, .int v_4, .int v_5, .ref a_6, .ref a_7, .ref a_8, .ref a_9, .int v_10, .int v_11, .int v_12]) := by rw [ef_82, up_ne (kd_ne ka_21 ko1 (by decide))]; exact hfo_73
  have hfo_84 : f_82 o0 = .inr (4, [.int v_2, .int v_3, .int v_4, .int v_5, .ref a_18, .ref a_19, .ref a_20, .ref a_21, .int v_22, .int v_23, .int v_24]) := by rw [ef_82, up_ne (kd_ne ka_21 ko0 (by decide))]; exact hfo_74
  have hfo_85 : f_82 a_8 = .inl (cI, 20, .inl g_70) := by rw [ef_82, up_ne (kd_ne ka_21 ka_8 (by decide))]; exact hfo_75
  have hfo_86 : f_82 a_9 = .inl (cI, 8, .inl g_80) := by rw [ef_82, up_ne (kd_ne ka_21 ka_9 (by decide))]; exact hfo_79
  have hfr0 : ∀ b, kd b ≠ 104 → kd b ≠ 105 → kd b ≠ 541 → kd b ≠ 542 → kd b ≠ 543 → kd b ≠ 544 → f_82 b = f b := fun b q104 q105 q541 q542 q543 q544 => (congrFun ef_82 b).trans ((up_ne (fun e9 => q544 (by rw [e9]; exact ka_21))).trans (hfr0 b q104 q105 q541 q542 q543 q544))
  have hfo_87 : f_82 a_21 = .inl (cI, 8, .inl (va_cpy g_80 g_78 (Int32.toNatClampNeg 0) (Int32.toNatClampNeg 0) (Int32.toNatClampNeg 8))) := by rw [ef_82]; exact up_self
  refine lv_aload_n hx hb dX4_copyFrom_90 rfl (lv_at hl 0 rfl) ?_
  refine lv_aload_n hx hb dX4_copyFrom_91 rfl (lv_at hl 1 rfl) ?_
  refine tk_getP (D := (dC, dI)) (ci := 4) (v := .int v_10) (C := RX4) (T := TX4) (N := 11) hx hb hU inlX4 hown hK hP mo1 hfo_83 rfl 8 (by decide) (hU _ wd_493) (fun _ h9 => h9) rfl dX4_copyFrom_92 ?_
  refine tk_putP (D := (dC, dI)) (ci := 4) (v := .int v_10) (ty := .int) (C := RX4) (T := TX4) (N := 11) hx hb hU inlX4 tyX4 tyX4_ok nmX4 hown hK hP hD hS mo0 hfo_84 rfl 8 (by decide) (hU _ wd_493) (fun _ h9 => h9) rfl (by decide +kernel) rfl rfl (Nat.le_of_ble_eq_true rfl) dX4_copyFrom_95 (fun H locs hP hD hS => ?_)
  obtain ⟨f_89, ef_89⟩ : ∃ y : Nat → va_E, y = va_up f_82 o0 (.inr (4, [.int v_2, .int v_3, .int v_4, .int v_5, .ref a_18, .ref a_19, .ref a_20, .ref a_21, .int v_10, .int v_23, .int v_24])) := ⟨_, rfl⟩
  have hP : va_P (dC, dI) vwCl (va_pl L f_89) H := by rw [ef_89]; exact hP
  have hD : va_D (fun q => q ∈ L) (va_pl L f_89) := by rw [ef_89]; exact hD
  have hG : GI (okc cI cL cZ cR cG cH L kd) kd L f_89 := by rw [ef_89]; exact hG.set o0 (mk_104 ko0 ⟨v_2, v_3, v_4, v_5, a_18, a_19, a_20, a_21, v_10, v_23, v_24, rfl, (by constructor <;> omega), (by constructor <;> omega), (by constructor <;> omega), (by constructor <;> omega), ⟨ma_18, ka_18⟩, ⟨ma_19, ka_19⟩, ⟨ma_20, ka_20⟩, ⟨ma_21, ka_21⟩⟩)
  have hfo_90 : f_89 o1 = .inr (4, [.int v_2, .int v_3, .int v_4, .int v_5, .ref a_6, .ref a_7, .ref a_8, .ref a_9, .int v_10, .int v_11, .int v_12]) := by rw [ef_89, up_ne (kd_ne ko0 ko1 (by decide))]; exact hfo_83
  have hfo_91 : f_89 a_8 = .inl (cI, 20, .inl g_70) := by rw [ef_89, up_ne (kd_ne ko0 ka_8 (by decide))]; exact hfo_85
  have hfo_92 : f_89 a_9 = .inl (cI, 8, .inl g_80) := by rw [ef_89, up_ne (kd_ne ko0 ka_9 (by decide))]; exact hfo_86
  have hfr0 : ∀ b, kd b ≠ 104 → kd b ≠ 105 → kd b ≠ 541 → kd b ≠ 542 → kd b ≠ 543 → kd b ≠ 544 → f_89 b = f b := fun b q104 q105 q541 q542 q543 q544 => (congrFun ef_89 b).trans ((up_ne (fun e9 => q104 (by rw [e9]; exact ko0))).trans (hfr0 b q104 q105 q541 q542 q543 q544))
  have hfo_93 : f_89 o0 = .inr (4, [.int v_2, .int v_3, .int v_4, .int v_5, .ref a_18, .ref a_19, .ref a_20, .ref a_21, .int v_10, .int v_23, .int v_24]) := by rw [ef_89]; exact up_self
  refine lv_aload_n hx hb dX4_copyFrom_98 rfl (lv_at hl 0 rfl) ?_
  refine lv_aload_n hx hb dX4_copyFrom_99 rfl (lv_at hl 1 rfl) ?_
  refine tk_getP (D := (dC, dI)) (ci := 4) (v := .int v_11) (C := RX4) (T := TX4) (N := 11) hx hb hU inlX4 hown hK hP mo1 hfo_90 rfl 9 (by decide) (hU _ wd_494) (fun _ h9 => h9) rfl dX4_copyFrom_100 ?_
  refine tk_putP (D := (dC, dI)) (ci := 4) (v := .int v_11) (ty := .int) (C := RX4) (T := TX4) (N := 11) hx hb hU inlX4 tyX4 tyX4_ok nmX4 hown hK hP hD hS mo0 hfo_93 rfl 9 (by decide) (hU _ wd_494) (fun _ h9 => h9) rfl (by decide +kernel) rfl rfl (Nat.le_of_ble_eq_true rfl) dX4_copyFrom_103 (fun H locs hP hD hS => ?_)
  obtain ⟨f_95, ef_95⟩ : ∃ y : Nat → va_E, y = va_up f_89 o0 (.inr (4, [.int v_2, .int v_3, .int v_4, .int v_5, .ref a_18, .ref a_19, .ref a_20, .ref a_21, .int v_10, .int v_11, .int v_24])) := ⟨_, rfl⟩
  have hP : va_P (dC, dI) vwCl (va_pl L f_95) H := by rw [ef_95]; exact hP
  have hD : va_D (fun q => q ∈ L) (va_pl L f_95) := by rw [ef_95]; exact hD
  have hG : GI (okc cI cL cZ cR cG cH L kd) kd L f_95 := by rw [ef_95]; exact hG.set o0 (mk_104 ko0 ⟨v_2, v_3, v_4, v_5, a_18, a_19, a_20, a_21, v_10, v_11, v_24, rfl, (by constructor <;> omega), (by constructor <;> omega), (by constructor <;> omega), (by constructor <;> omega), ⟨ma_18, ka_18⟩, ⟨ma_19, ka_19⟩, ⟨ma_20, ka_20⟩, ⟨ma_21, ka_21⟩⟩)
  have hfo_96 : f_95 o1 = .inr (4, [.int v_2, .int v_3, .int v_4, .int v_5, .ref a_6, .ref a_7, .ref a_8, .ref a_9, .int v_10, .int v_11, .int v_12]) := by rw [ef_95, up_ne (kd_ne ko0 ko1 (by decide))]; exact hfo_90
  have hfo_97 : f_95 a_8 = .inl (cI, 20, .inl g_70) := by rw [ef_95, up_ne (kd_ne ko0 ka_8 (by decide))]; exact hfo_91
  have hfo_98 : f_95 a_9 = .inl (cI, 8, .inl g_80) := by rw [ef_95, up_ne (kd_ne ko0 ka_9 (by decide))]; exact hfo_92
  have hfr0 : ∀ b, kd b ≠ 104 → kd b ≠ 105 → kd b ≠ 541 → kd b ≠ 542 → kd b ≠ 543 → kd b ≠ 544 → f_95 b = f b := fun b q104 q105 q541 q542 q543 q544 => (congrFun ef_95 b).trans ((up_ne (fun e9 => q104 (by rw [e9]; exact ko0))).trans (hfr0 b q104 q105 q541 q542 q543 q544))
  have hfo_99 : f_95 o0 = .inr (4, [.int v_2, .int v_3, .int v_4, .int v_5, .ref a_18, .ref a_19, .ref a_20, .ref a_21, .int v_10, .int v_11, .int v_24]) := by rw [ef_95]; exact up_self
  refine lv_aload_n hx hb dX4_copyFrom_106 rfl (lv_at hl 0 rfl) ?_
  refine lv_aload_n hx hb dX4_copyFrom_107 rfl (lv_at hl 1 rfl) ?_
  refine tk_getP (D := (dC, dI)) (ci := 4) (v := .int v_12) (C := RX4) (T := TX4) (N := 11) hx hb hU inlX4 hown hK hP mo1 hfo_96 rfl 10 (by decide) (hU _ wd_495) (fun _ h9 => h9) rfl dX4_copyFrom_108 ?_
  refine tk_putP (D := (dC, dI)) (ci := 4) (v := .int v_12) (ty := .int) (C := RX4) (T := TX4) (N := 11) hx hb hU inlX4 tyX4 tyX4_ok nmX4 hown hK hP hD hS mo0 hfo_99 rfl 10 (by decide) (hU _ wd_495) (fun _ h9 => h9) rfl (by decide +kernel) rfl rfl (Nat.le_of_ble_eq_true rfl) dX4_copyFrom_111 (fun H locs hP hD hS => ?_)
  obtain ⟨f_101, ef_101⟩ : ∃ y : Nat → va_E, y = va_up f_95 o0 (.inr (4, [.int v_2, .int v_3, .int v_4, .int v_5, .ref a_18, .ref a_19, .ref a_20, .ref a_21, .int v_10, .int v_11, .int v_12])) := ⟨_, rfl⟩
  have hP : va_P (dC, dI) vwCl (va_pl L f_101) H := by rw [ef_101]; exact hP
  have hD : va_D (fun q => q ∈ L) (va_pl L f_101) := by rw [ef_101]; exact hD
  have hG : GI (okc cI cL cZ cR cG cH L kd) kd L f_101 := by rw [ef_101]; exact hG.set o0 (mk_104 ko0 ⟨v_2, v_3, v_4, v_5, a_18, a_19, a_20, a_21, v_10, v_11, v_12, rfl, (by constructor <;> omega), (by constructor <;> omega), (by constructor <;> omega), (by constructor <;> omega), ⟨ma_18, ka_18⟩, ⟨ma_19, ka_19⟩, ⟨ma_20, ka_20⟩, ⟨ma_21, ka_21⟩⟩)
  have hfo_102 : f_101 o1 = .inr (4, [.int v_2, .int v_3, .int v_4, .int v_5, .ref a_6, .ref a_7, .ref a_8, .ref a_9, .int v_10, .int v_11, .int v_12]) := by rw [ef_101, up_ne (kd_ne ko0 ko1 (by decide))]; exact hfo_96
  have hfo_103 : f_101 a_8 = .inl (cI, 20, .inl g_70) := by rw [ef_101, up_ne (kd_ne ko0 ka_8 (by decide))]; exact hfo_97
  have hfo_104 : f_101 a_9 = .inl (cI, 8, .inl g_80) := by rw [ef_101, up_ne (kd_ne ko0 ka_9 (by decide))]; exact hfo_98
  have hfr0 : ∀ b, kd b ≠ 104 → kd b ≠ 105 → kd b ≠ 541 → kd b ≠ 542 → kd b ≠ 543 → kd b ≠ 544 → f_101 b = f b := fun b q104 q105 q541 q542 q543 q544 => (congrFun ef_101 b).trans ((up_ne (fun e9 => q104 (by rw [e9]; exact ko0))).trans (hfr0 b q104 q105 q541 q542 q543 q544))
  have hfo_105 : f_101 o0 = .inr (4, [.int v_2, .int v_3, .int v_4, .int v_5, .ref a_18, .ref a_19, .ref a_20, .ref a_21, .int v_10, .int v_11, .int v_12]) := by rw [ef_101]; exact up_self
  exact W.vret hx hb hr (fun t ht hW => ⟨⟨f_101, rfl, ⟨hG, hfr0⟩, by rw [ht]; exact hP, va_K.moved hW.alike hK, pl_in hD⟩, hS.F ht⟩) hS.2.2 dX4_copyFrom_114
set_option maxHeartbeats 8000000 in
set_option maxRecDepth 100000 in
theorem s_X4_copyFrom_k4_k104 (l : Launch) (D : va_G) (cI cL cZ cR cG cH : ClassId) (Z : zT) (kd : Nat → Nat) (L : List Nat) (f : Nat → va_E) (hG : GI (okc cI cL cZ cR cG cH L kd) kd L f) (o0 : Nat) (mo0 : o0 ∈ L) (ko0 : kd o0 = 4) (o1 : Nat) (mo1 : o1 ∈ L) (ko1 : kd o1 = 104) : mPV l D cI cL cZ cR cG cH Z yX4_copyFrom cX4_copyFrom 2 none 2 61 [.ref o0, .ref o1] L f (fun (f9 : Nat → va_E) => GI (okc cI cL cZ cR cG cH L kd) kd L f9 ∧ (∀ b, kd b ≠ 4 → kd b ≠ 5 → kd b ≠ 500 → kd b ≠ 501 → kd b ≠ 502 → kd b ≠ 503 → f9 b = f b)) := by
  obtain ⟨dC, dI⟩ := D
  refine Met.ofW (cc := cX4_copyFrom) (maxL := 2) (ret := none) (by decide) rfl ?_
  intro p e s m args below meth c s₁ B hml hv
  obtain ⟨rfl, hP, hK, hD0, hN, hZ⟩ := hv
  have hx := B.exec
  have hb := B.bytes
  have hr := B.returns
  have hU : ∀ w ∈ wsU, w.before _ s = true := fun w h => atoms_spec (ws := wU yX4_copyFrom cX4_copyFrom 2 none) B.pre w (List.mem_cons_of_mem _ h)
  have hown : s.vm.findClass RX4 = some m.cls := findClass_of_methodNamed B.named
  have hlocks := B.notSynchronized
  have hD := pl_in hD0
  have hS : va_S (fun q => q ∈ L) s.heap s.heap [] := va_S.rf
  have hl := lv_entry ([.ref o0, .ref o1]) (n := 2) (Nat.le_of_ble_eq_true rfl)
  rw [lg_entry_eq]
  generalize (lg_sl ([.ref o0, .ref o1]) ++ List.replicate (2 - (lg_sl ([.ref o0, .ref o1])).length) Slot.unset).toArray = ls at hl ⊢
  have hl : lv_has ls 2 [(0, .ref o0), (1, .ref o1)] := hl
  have hfr0 : ∀ b, kd b ≠ 4 → kd b ≠ 5 → kd b ≠ 500 → kd b ≠ 501 → kd b ≠ 502 → kd b ≠ 503 → f b = f b := fun _ _ _ _ _ _ _ => rfl
  refine lv_aload_n hx hb dX4_copyFrom_0 rfl (lv_at hl 0 rfl) ?_
  refine lv_aload_n hx hb dX4_copyFrom_1 rfl (lv_at hl 1 rfl) ?_
  obtain ⟨v_2, v_3, v_4, v_5, a_6, a_7, a_8, a_9, v_10, v_11, v_12, hfo_1, bv_2, bv_3, bv_4, bv_5, ⟨ma_6, ka_6⟩, ⟨ma_7, ka_7⟩, ⟨ma_8, ka_8⟩, ⟨ma_9, ka_9⟩⟩ := un_104 (hG _ mo1) ko1
  have bv_10 : ((-2147483648) ≤ v_10.toInt ∧ v_10.toInt ≤ 2147483647) := ⟨i32_lo _, i32_hi _⟩
  have bv_11 : ((-2147483648) ≤ v_11.toInt ∧ v_11.toInt ≤ 2147483647) := ⟨i32_lo _, i32_hi _⟩
  have bv_12 : ((-2147483648) ≤ v_12.toInt ∧ v_12.toInt ≤ 2147483647) := ⟨i32_lo _, i32_hi _⟩
  refine tk_getP (D := (dC, dI)) (ci := 4) (v := .int v_2) (C := RX4) (T := TX4) (N := 11) hx hb hU inlX4 hown hK hP mo1 hfo_1 rfl 0 (by decide) (hU _ wd_407) (fun _ h9 => h9) rfl dX4_copyFrom_2 ?_
  obtain ⟨v_14, v_15, v_16, v_17, a_18, a_19, a_20, a_21, v_22, v_23, v_24, hfo_13, bv_14, bv_15, bv_16, bv_17, ⟨ma_18, ka_18⟩, ⟨ma_19, ka_19⟩, ⟨ma_20, ka_20⟩, ⟨ma_21, ka_21⟩⟩ := un_4 (hG _ mo0) ko0
  have bv_22 : ((-2147483648) ≤ v_22.toInt ∧ v_22.toInt ≤ 2147483647) := ⟨i32_lo _, i32_hi _⟩
  have bv_23 : ((-2147483648) ≤ v_23.toInt ∧ v_23.toInt ≤ 2147483647) := ⟨i32_lo _, i32_hi _⟩
  have bv_24 : ((-2147483648) ≤ v_24.toInt ∧ v_24.toInt ≤ 2147483647) := ⟨i32_lo _, i32_hi _⟩
  refine tk_putP (D := (dC, dI)) (ci := 4) (v := .int v_2) (ty := .int) (C := RX4) (T := TX4) (N := 11) hx hb hU inlX4 tyX4 tyX4_ok nmX4 hown hK hP hD hS mo0 hfo_13 rfl 0 (by decide) (hU _ wd_407) (fun _ h9 => h9) rfl (by decide +kernel) rfl rfl (Nat.le_of_ble_eq_true rfl) dX4_copyFrom_5 (fun H locs hP hD hS => ?_)
  obtain ⟨f_26, ef_26⟩ : ∃ y : Nat → va_E, y = va_up f o0 (.inr (4, [.int v_2, .int v_15, .int v_16, .int v_17, .ref a_18, .ref a_19, .ref a_20, .ref a_21, .int v_22, .int v_23, .int v_24])) := ⟨_, rfl⟩
  have hP : va_P (dC, dI) vwCl (va_pl L f_26) H := by rw [ef_26]; exact hP
  have hD : va_D (fun q => q ∈ L) (va_pl L f_26) := by rw [ef_26]; exact hD
  have hG : GI (okc cI cL cZ cR cG cH L kd) kd L f_26 := by rw [ef_26]; exact hG.set o0 (mk_4 ko0 ⟨v_2, v_15, v_16, v_17, a_18, a_19, a_20, a_21, v_22, v_23, v_24, rfl, (by constructor <;> omega), (by constructor <;> omega), (by constructor <;> omega), (by constructor <;> omega), ⟨ma_18, ka_18⟩, ⟨ma_19, ka_19⟩, ⟨ma_20, ka_20⟩, ⟨ma_21, ka_21⟩⟩)
  have hfo_27 : f_26 o1 = .inr (4, [.int v_2, .int v_3, .int v_4, .int v_5, .ref a_6, .ref a_7, .ref a_8, .ref a_9, .int v_10, .int v_11, .int v_12]) := by rw [ef_26, up_ne (kd_ne ko0 ko1 (by decide))]; exact hfo_1
  have hfr0 : ∀ b, kd b ≠ 4 → kd b ≠ 5 → kd b ≠ 500 → kd b ≠ 501 → kd b ≠ 502 → kd b ≠ 503 → f_26 b = f b := fun b q4 q5 q500 q501 q502 q503 => (congrFun ef_26 b).trans ((up_ne (fun e9 => q4 (by rw [e9]; exact ko0))).trans (hfr0 b q4 q5 q500 q501 q502 q503))
  have hfo_28 : f_26 o0 = .inr (4, [.int v_2, .int v_15, .int v_16, .int v_17, .ref a_18, .ref a_19, .ref a_20, .ref a_21, .int v_22, .int v_23, .int v_24]) := by rw [ef_26]; exact up_self
  refine lv_aload_n hx hb dX4_copyFrom_8 rfl (lv_at hl 0 rfl) ?_
  refine lv_aload_n hx hb dX4_copyFrom_9 rfl (lv_at hl 1 rfl) ?_
  refine tk_getP (D := (dC, dI)) (ci := 4) (v := .int v_3) (C := RX4) (T := TX4) (N := 11) hx hb hU inlX4 hown hK hP mo1 hfo_27 rfl 1 (by decide) (hU _ wd_408) (fun _ h9 => h9) rfl dX4_copyFrom_10 ?_
  refine tk_putP (D := (dC, dI)) (ci := 4) (v := .int v_3) (ty := .int) (C := RX4) (T := TX4) (N := 11) hx hb hU inlX4 tyX4 tyX4_ok nmX4 hown hK hP hD hS mo0 hfo_28 rfl 1 (by decide) (hU _ wd_408) (fun _ h9 => h9) rfl (by decide +kernel) rfl rfl (Nat.le_of_ble_eq_true rfl) dX4_copyFrom_13 (fun H locs hP hD hS => ?_)
  obtain ⟨f_30, ef_30⟩ : ∃ y : Nat → va_E, y = va_up f_26 o0 (.inr (4, [.int v_2, .int v_3, .int v_16, .int v_17, .ref a_18, .ref a_19, .ref a_20, .ref a_21, .int v_22, .int v_23, .int v_24])) := ⟨_, rfl⟩
  have hP : va_P (dC, dI) vwCl (va_pl L f_30) H := by rw [ef_30]; exact hP
  have hD : va_D (fun q => q ∈ L) (va_pl L f_30) := by rw [ef_30]; exact hD
  have hG : GI (okc cI cL cZ cR cG cH L kd) kd L f_30 := by rw [ef_30]; exact hG.set o0 (mk_4 ko0 ⟨v_2, v_3, v_16, v_17, a_18, a_19, a_20, a_21, v_22, v_23, v_24, rfl, (by constructor <;> omega), (by constructor <;> omega), (by constructor <;> omega), (by constructor <;> omega), ⟨ma_18, ka_18⟩, ⟨ma_19, ka_19⟩, ⟨ma_20, ka_20⟩, ⟨ma_21, ka_21⟩⟩)
  have hfo_31 : f_30 o1 = .inr (4, [.int v_2, .int v_3, .int v_4, .int v_5, .ref a_6, .ref a_7, .ref a_8, .ref a_9, .int v_10, .int v_11, .int v_12]) := by rw [ef_30, up_ne (kd_ne ko0 ko1 (by decide))]; exact hfo_27
  have hfr0 : ∀ b, kd b ≠ 4 → kd b ≠ 5 → kd b ≠ 500 → kd b ≠ 501 → kd b ≠ 502 → kd b ≠ 503 → f_30 b = f b := fun b q4 q5 q500 q501 q502 q503 => (congrFun ef_30 b).trans ((up_ne (fun e9 => q4 (by rw [e9]; exact ko0))).trans (hfr0 b q4 q5 q500 q501 q502 q503))
  have hfo_32 : f_30 o0 = .inr (4, [.int v_2, .int v_3, .int v_16, .int v_17, .ref a_18, .ref a_19, .ref a_20, .ref a_21, .int v_22, .int v_23, .int v_24]) := by rw [ef_30]; exact up_self
  refine lv_aload_n hx hb dX4_copyFrom_16 rfl (lv_at hl 0 rfl) ?_
  refine lv_aload_n hx hb dX4_copyFrom_17 rfl (lv_at hl 1 rfl) ?_
  refine tk_getP (D := (dC, dI)) (ci := 4) (v := .int v_4) (C := RX4) (T := TX4) (N := 11) hx hb hU inlX4 hown hK hP mo1 hfo_31 rfl 2 (by decide) (hU _ wd_409) (fun _ h9 => h9) rfl dX4_copyFrom_18 ?_
  refine tk_putP (D := (dC, dI)) (ci := 4) (v := .int v_4) (ty := .int) (C := RX4) (T := TX4) (N := 11) hx hb hU inlX4 tyX4 tyX4_ok nmX4 hown hK hP hD hS mo0 hfo_32 rfl 2 (by decide) (hU _ wd_409) (fun _ h9 => h9) rfl (by decide +kernel) rfl rfl (Nat.le_of_ble_eq_true rfl) dX4_copyFrom_21 (fun H locs hP hD hS => ?_)
  obtain ⟨f_34, ef_34⟩ : ∃ y : Nat → va_E, y = va_up f_30 o0 (.inr (4, [.int v_2, .int v_3, .int v_4, .int v_17, .ref a_18, .ref a_19, .ref a_20, .ref a_21, .int v_22, .int v_23, .int v_24])) := ⟨_, rfl⟩
  have hP : va_P (dC, dI) vwCl (va_pl L f_34) H := by rw [ef_34]; exact hP
  have hD : va_D (fun q => q ∈ L) (va_pl L f_34) := by rw [ef_34]; exact hD
  have hG : GI (okc cI cL cZ cR cG cH L kd) kd L f_34 := by rw [ef_34]; exact hG.set o0 (mk_4 ko0 ⟨v_2, v_3, v_4, v_17, a_18, a_19, a_20, a_21, v_22, v_23, v_24, rfl, (by constructor <;> omega), (by constructor <;> omega), (by constructor <;> omega), (by constructor <;> omega), ⟨ma_18, ka_18⟩, ⟨ma_19, ka_19⟩, ⟨ma_20, ka_20⟩, ⟨ma_21, ka_21⟩⟩)
  have hfo_35 : f_34 o1 = .inr (4, [.int v_2, .int v_3, .int v_4, .int v_5, .ref a_6, .ref a_7, .ref a_8, .ref a_9, .int v_10, .int v_11, .int v_12]) := by rw [ef_34, up_ne (kd_ne ko0 ko1 (by decide))]; exact hfo_31
  have hfr0 : ∀ b, kd b ≠ 4 → kd b ≠ 5 → kd b ≠ 500 → kd b ≠ 501 → kd b ≠ 502 → kd b ≠ 503 → f_34 b = f b := fun b q4 q5 q500 q501 q502 q503 => (congrFun ef_34 b).trans ((up_ne (fun e9 => q4 (by rw [e9]; exact ko0))).trans (hfr0 b q4 q5 q500 q501 q502 q503))
  have hfo_36 : f_34 o0 = .inr (4, [.int v_2, .int v_3, .int v_4, .int v_17, .ref a_18, .ref a_19, .ref a_20, .ref a_21, .int v_22, .int v_23, .int v_24]) := by rw [ef_34]; exact up_self
  refine lv_aload_n hx hb dX4_copyFrom_24 rfl (lv_at hl 0 rfl) ?_
  refine lv_aload_n hx hb dX4_copyFrom_25 rfl (lv_at hl 1 rfl) ?_
  refine tk_getP (D := (dC, dI)) (ci := 4) (v := .int v_5) (C := RX4) (T := TX4) (N := 11) hx hb hU inlX4 hown hK hP mo1 hfo_35 rfl 3 (by decide) (hU _ wd_410) (fun _ h9 => h9) rfl dX4_copyFrom_26 ?_
  refine tk_putP (D := (dC, dI)) (ci := 4) (v := .int v_5) (ty := .int) (C := RX4) (T := TX4) (N := 11) hx hb hU inlX4 tyX4 tyX4_ok nmX4 hown hK hP hD hS mo0 hfo_36 rfl 3 (by decide) (hU _ wd_410) (fun _ h9 => h9) rfl (by decide +kernel) rfl rfl (Nat.le_of_ble_eq_true rfl) dX4_copyFrom_29 (fun H locs hP hD hS => ?_)
  obtain ⟨f_38, ef_38⟩ : ∃ y : Nat → va_E, y = va_up f_34 o0 (.inr (4, [.int v_2, .int v_3, .int v_4, .int v_5, .ref a_18, .ref a_19, .ref a_20, .ref a_21, .int v_22, .int v_23, .int v_24])) := ⟨_, rfl⟩
  have hP : va_P (dC, dI) vwCl (va_pl L f_38) H := by rw [ef_38]; exact hP
  have hD : va_D (fun q => q ∈ L) (va_pl L f_38) := by rw [ef_38]; exact hD
  have hG : GI (okc cI cL cZ cR cG cH L kd) kd L f_38 := by rw [ef_38]; exact hG.set o0 (mk_4 ko0 ⟨v_2, v_3, v_4, v_5, a_18, a_19, a_20, a_21, v_22, v_23, v_24, rfl, (by constructor <;> omega), (by constructor <;> omega), (by constructor <;> omega), (by constructor <;> omega), ⟨ma_18, ka_18⟩, ⟨ma_19, ka_19⟩, ⟨ma_20, ka_20⟩, ⟨ma_21, ka_21⟩⟩)
  have hfo_39 : f_38 o1 = .inr (4, [.int v_2, .int v_3, .int v_4, .int v_5, .ref a_6, .ref a_7, .ref a_8, .ref a_9, .int v_10, .int v_11, .int v_12]) := by rw [ef_38, up_ne (kd_ne ko0 ko1 (by decide))]; exact hfo_35
  have hfr0 : ∀ b, kd b ≠ 4 → kd b ≠ 5 → kd b ≠ 500 → kd b ≠ 501 → kd b ≠ 502 → kd b ≠ 503 → f_38 b = f b := fun b q4 q5 q500 q501 q502 q503 => (congrFun ef_38 b).trans ((up_ne (fun e9 => q4 (by rw [e9]; exact ko0))).trans (hfr0 b q4 q5 q500 q501 q502 q503))
  have hfo_40 : f_38 o0 = .inr (4, [.int v_2, .int v_3, .int v_4, .int v_5, .ref a_18, .ref a_19, .ref a_20, .ref a_21, .int v_22, .int v_23, .int v_24]) := by rw [ef_38]; exact up_self
  refine lv_aload_n hx hb dX4_copyFrom_32 rfl (lv_at hl 0 rfl) ?_
  refine tk_getP (D := (dC, dI)) (ci := 4) (v := .ref a_18) (C := RX4) (T := TX4) (N := 11) hx hb hU inlX4 hown hK hP mo0 hfo_40 rfl 4 (by decide) (hU _ wd_103) (fun _ h9 => h9) rfl dX4_copyFrom_33 ?_
  refine lv_aload_n hx hb dX4_copyFrom_36 rfl (lv_at hl 1 rfl) ?_
  refine tk_getP (D := (dC, dI)) (ci := 4) (v := .ref a_6) (C := RX4) (T := TX4) (N := 11) hx hb hU inlX4 hown hK hP mo1 hfo_39 rfl 4 (by decide) (hU _ wd_103) (fun _ h9 => h9) rfl dX4_copyFrom_37 ?_
  obtain ⟨a_42, a_43, a_44, v_45, v_46, v_47, hfo_41, ⟨ma_42, ka_42⟩, ⟨ma_43, ka_43⟩, ⟨ma_44, ka_44⟩⟩ := un_5 (hG _ ma_18) ka_18
  have bv_45 : ((-2147483648) ≤ v_45.toInt ∧ v_45.toInt ≤ 2147483647) := ⟨i32_lo _, i32_hi _⟩
  have bv_46 : ((-2147483648) ≤ v_46.toInt ∧ v_46.toInt ≤ 2147483647) := ⟨i32_lo _, i32_hi _⟩
  have bv_47 : ((-2147483648) ≤ v_47.toInt ∧ v_47.toInt ≤ 2147483647) := ⟨i32_lo _, i32_hi _⟩
  refine tk_VvP (As := [.ref a_6]) (rest := []) (n := 1) hx hb hml hown hU hN hZ (s_X5_copyFrom_k5_k105 l (dC, dI) cI cL cZ cR cG cH Z kd L f_38 hG a_18 ma_18 ka_18 a_6 ma_6 ka_6) wd_540 wd_541 wd_542 wd_102 wd_543 (by decide +kernel) ⟨Nat.le_of_ble_eq_true rfl, Nat.le_of_ble_eq_true rfl⟩ hK hP hD hS ma_18 hfo_41 5 rfl rfl rfl hl.1 rfl (Nat.le_of_ble_eq_true rfl) dX4_copyFrom_40 ⟨Nat.le_of_ble_eq_true rfl, Nat.le_of_ble_eq_true rfl⟩ (fun f_49 H locs hw hP hD hS => ?_)
  obtain ⟨hG, hkc_50⟩ := hw
  have hfo_52 : f_49 o1 = .inr (4, [.int v_2, .int v_3, .int v_4, .int v_5, .ref a_6, .ref a_7, .ref a_8, .ref a_9, .int v_10, .int v_11, .int v_12]) := by rw [hkc_50 o1 (by rw [ko1]; decide) (by rw [ko1]; decide) (by rw [ko1]; decide)]; exact hfo_39
  have hfo_53 : f_49 o0 = .inr (4, [.int v_2, .int v_3, .int v_4, .int v_5, .ref a_18, .ref a_19, .ref a_20, .ref a_21, .int v_22, .int v_23, .int v_24]) := by rw [hkc_50 o0 (by rw [ko0]; decide) (by rw [ko0]; decide) (by rw [ko0]; decide)]; exact hfo_40
  have hfr0 : ∀ b, kd b ≠ 4 → kd b ≠ 5 → kd b ≠ 500 → kd b ≠ 501 → kd b ≠ 502 → kd b ≠ 503 → f_49 b = f b := fun b q4 q5 q500 q501 q502 q503 => (hkc_50 b q5 q500 q501).trans (hfr0 b q4 q5 q500 q501 q502 q503)
  refine lv_aload_n hx hb dX4_copyFrom_43 rfl (lv_at hl 0 rfl) ?_
  refine tk_getP (D := (dC, dI)) (ci := 4) (v := .ref a_19) (C := RX4) (T := TX4) (N := 11) hx hb hU inlX4 hown hK hP mo0 hfo_53 rfl 5 (by decide) (hU _ wd_104) (fun _ h9 => h9) rfl dX4_copyFrom_44 ?_
  refine lv_aload_n hx hb dX4_copyFrom_47 rfl (lv_at hl 1 rfl) ?_
  refine tk_getP (D := (dC, dI)) (ci := 4) (v := .ref a_7) (C := RX4) (T := TX4) (N := 11) hx hb hU inlX4 hown hK hP mo1 hfo_52 rfl 5 (by decide) (hU _ wd_104) (fun _ h9 => h9) rfl dX4_copyFrom_48 ?_
  obtain ⟨a_55, a_56, a_57, v_58, v_59, v_60, hfo_54, ⟨ma_55, ka_55⟩, ⟨ma_56, ka_56⟩, ⟨ma_57, ka_57⟩⟩ := un_5 (hG _ ma_19) ka_19
  have bv_58 : ((-2147483648) ≤ v_58.toInt ∧ v_58.toInt ≤ 2147483647) := ⟨i32_lo _, i32_hi _⟩
  have bv_59 : ((-2147483648) ≤ v_59.toInt ∧ v_59.toInt ≤ 2147483647) := ⟨i32_lo _, i32_hi _⟩
  have bv_60 : ((-2147483648) ≤ v_60.toInt ∧ v_60.toInt ≤ 2147483647) := ⟨i32_lo _, i32_hi _⟩
  refine tk_VvP (As := [.ref a_7]) (rest := []) (n := 1) hx hb hml hown hU hN hZ (s_X5_copyFrom_k5_k105 l (dC, dI) cI cL cZ cR cG cH Z kd L f_49 hG a_19 ma_19 ka_19 a_7 ma_7 ka_7) wd_540 wd_541 wd_542 wd_102 wd_543 (by decide +kernel) ⟨Nat.le_of_ble_eq_true rfl, Nat.le_of_ble_eq_true rfl⟩ hK hP hD hS ma_19 hfo_54 5 rfl rfl rfl hl.1 rfl (Nat.le_of_ble_eq_true rfl) dX4_copyFrom_51 ⟨Nat.le_of_ble_eq_true rfl, Nat.le_of_ble_eq_true rfl⟩ (fun f_62 H locs hw hP hD hS => ?_)
  obtain ⟨hG, hkc_63⟩ := hw
  have hfo_65 : f_62 o1 = .inr (4, [.int v_2, .int v_3, .int v_4, .int v_5, .ref a_6, .ref a_7, .ref a_8, .ref a_9, .int v_10, .int v_11, .int v_12]) := by rw [hkc_63 o1 (by rw [ko1]; decide) (by rw [ko1]; decide) (by rw [ko1]; decide)]; exact hfo_52
  have hfo_66 : f_62 o0 = .inr (4, [.int v_2, .int v_3, .int v_4, .int v_5, .ref a_18, .ref a_19, .ref a_20, .ref a_21, .int v_22, .int v_23, .int v_24]) := by rw [hkc_63 o0 (by rw [ko0]; decide) (by rw [ko0]; decide) (by rw [ko0]; decide)]; exact hfo_53
  have hfr0 : ∀ b, kd b ≠ 4 → kd b ≠ 5 → kd b ≠ 500 → kd b ≠ 501 → kd b ≠ 502 → kd b ≠ 503 → f_62 b = f b := fun b q4 q5 q500 q501 q502 q503 => (hkc_63 b q5 q500 q501).trans (hfr0 b q4 q5 q500 q501 q502 q503)
  refine lv_aload_n hx hb dX4_copyFrom_54 rfl (lv_at hl 1 rfl) ?_
  refine tk_getP (D := (dC, dI)) (ci := 4) (v := .ref a_8) (C := RX4) (T := TX4) (N := 11) hx hb hU inlX4 hown hK hP mo1 hfo_65 rfl 6 (by decide) (hU _ wd_105) (fun _ h9 => h9) rfl dX4_copyFrom_55 ?_
  refine lv_iconst (v := 0) hx hb dX4_copyFrom_58 (by decide) ?_
  refine lv_aload_n hx hb dX4_copyFrom_59 rfl (lv_at hl 0 rfl) ?_
  refine tk_getP (D := (dC, dI)) (ci := 4) (v := .ref a_20) (C := RX4) (T := TX4) (N := 11) hx hb hU inlX4 hown hK hP mo0 hfo_66 rfl 6 (by decide) (hU _ wd_105) (fun _ h9 => h9) rfl dX4_copyFrom_60 ?_
  refine lv_iconst (v := 0) hx hb dX4_copyFrom_63 (by decide) ?_
  refine lv_aload_n hx hb dX4_copyFrom_64 rfl (lv_at hl 0 rfl) ?_
  refine tk_getP (D := (dC, dI)) (ci := 4) (v := .ref a_20) (C := RX4) (T := TX4) (N := 11) hx hb hU inlX4 hown hK hP mo0 hfo_66 rfl 6 (by decide) (hU _ wd_105) (fun _ h9 => h9) rfl dX4_copyFrom_65 ?_
  obtain ⟨g_68, hfo_67, hbg_68⟩ := un_502 (hG _ ma_20) ka_20
  refine tk_alenP (v := 20) hx hb hK hP 0 ma_20 hfo_67 rfl rfl dX4_copyFrom_68 ?_
  obtain ⟨g_70, hfo_69, hbg_70⟩ := un_543 (hG _ ma_8) ka_8
  refine tk_copyP hx hb (by rw [hml]; exact hl.1.symm) hown (hU _ wd_539) (hU _ wd_253) (hU _ wd_254) (hU _ wd_255) hK hP hD hS 0 ma_8 ma_20 hfo_69 hfo_67 rfl (by decide) (by decide) (by decide) (by decide) (by decide) (Nat.le_of_ble_eq_true rfl) (Nat.le_of_ble_eq_true rfl) dX4_copyFrom_69 (fun H locs hP hD hS => ?_)
  obtain ⟨f_72, ef_72⟩ : ∃ y : Nat → va_E, y = va_up f_62 a_20 (.inl (cI, 20, .inl (va_cpy g_70 g_68 (Int32.toNatClampNeg 0) (Int32.toNatClampNeg 0) (Int32.toNatClampNeg 20)))) := ⟨_, rfl⟩
  have hP : va_P (dC, dI) vwCl (va_pl L f_72) H := by rw [ef_72]; exact hP
  have hD : va_D (fun q => q ∈ L) (va_pl L f_72) := by rw [ef_72]; exact hD
  have hG : GI (okc cI cL cZ cR cG cH L kd) kd L f_72 := by rw [ef_72]; exact hG.set a_20 (mk_502 ka_20 ⟨_, rfl, okI_cpy (fun j => by have := hbg_70 j; constructor <;> omega) hbg_68 _ _ _⟩)
  have hfo_73 : f_72 o1 = .inr (4, [.int v_2, .int v_3, .int v_4, .int v_5, .ref a_6, .ref a_7, .ref a_8, .ref a_9, .int v_10, .int v_11, .int v_12]) := by rw [ef_72, up_ne (kd_ne ka_20 ko1 (by decide))]; exact hfo_65
  have hfo_74 : f_72 o0 = .inr (4, [.int v_2, .int v_3, .int v_4, .int v_5, .ref a_18, .ref a_19, .ref a_20, .ref a_21, .int v_22, .int v_23, .int v_24]) := by rw [ef_72, up_ne (kd_ne ka_20 ko0 (by decide))]; exact hfo_66
  have hfo_75 : f_72 a_8 = .inl (cI, 20, .inl g_70) := by rw [ef_72, up_ne (kd_ne ka_20 ka_8 (by decide))]; exact hfo_69
  have hfr0 : ∀ b, kd b ≠ 4 → kd b ≠ 5 → kd b ≠ 500 → kd b ≠ 501 → kd b ≠ 502 → kd b ≠ 503 → f_72 b = f b := fun b q4 q5 q500 q501 q502 q503 => (congrFun ef_72 b).trans ((up_ne (fun e9 => q502 (by rw [e9]; exact ka_20))).trans (hfr0 b q4 q5 q500 q501 q502 q503))
  have hfo_76 : f_72 a_20 = .inl (cI, 20, .inl (va_cpy g_70 g_68 (Int32.toNatClampNeg 0) (Int32.toNatClampNeg 0) (Int32.toNatClampNeg 20))) := by rw [ef_72]; exact up_self
  refine lv_aload_n hx hb dX4_copyFrom_72 rfl (lv_at hl 1 rfl) ?_
  refine tk_getP (D := (dC, dI)) (ci := 4) (v := .ref a_9) (C := RX4) (T := TX4) (N := 11) hx hb hU inlX4 hown hK hP mo1 hfo_73 rfl 7 (by decide) (hU _ wd_106) (fun _ h9 => h9) rfl dX4_copyFrom_73 ?_
  refine lv_iconst (v := 0) hx hb dX4_copyFrom_76 (by decide) ?_
  refine lv_aload_n hx hb dX4_copyFrom_77 rfl (lv_at hl 0 rfl) ?_
  refine tk_getP (D := (dC, dI)) (ci := 4) (v := .ref a_21) (C := RX4) (T := TX4) (N := 11) hx hb hU inlX4 hown hK hP mo0 hfo_74 rfl 7 (by decide) (hU _ wd_106) (fun _ h9 => h9) rfl dX4_copyFrom_78 ?_
  refine lv_iconst (v := 0) hx hb dX4_copyFrom_81 (by decide) ?_
  refine lv_aload_n hx hb dX4_copyFrom_82 rfl (lv_at hl 0 rfl) ?_
  refine tk_getP (D := (dC, dI)) (ci := 4) (v := .ref a_21) (C := RX4) (T := TX4) (N := 11) hx hb hU inlX4 hown hK hP mo0 hfo_74 rfl 7 (by decide) (hU _ wd_106) (fun _ h9 => h9) rfl dX4_copyFrom_83 ?_
  obtain ⟨g_78, hfo_77, hbg_78⟩ := un_503 (hG _ ma_21) ka_21
  refine tk_alenP (v := 8) hx hb hK hP 0 ma_21 hfo_77 rfl rfl dX4_copyFrom_86 ?_
  obtain ⟨g_80, hfo_79, hbg_80⟩ := un_544 (hG _ ma_9) ka_9
  refine tk_copyP hx hb (by rw [hml]; exact hl.1.symm) hown (hU _ wd_539) (hU _ wd_253) (hU _ wd_254) (hU _ wd_255) hK hP hD hS 0 ma_9 ma_21 hfo_79 hfo_77 rfl (by decide) (by decide) (by decide) (by decide) (by decide) (Nat.le_of_ble_eq_true rfl) (Nat.le_of_ble_eq_true rfl) dX4_copyFrom_87 (fun H locs hP hD hS => ?_)
  obtain ⟨f_82, ef_82⟩ : ∃ y : Nat → va_E, y = va_up f_72 a_21 (.inl (cI, 8, .inl (va_cpy g_80 g_78 (Int32.toNatClampNeg 0) (Int32.toNatClampNeg 0) (Int32.toNatClampNeg 8)))) := ⟨_, rfl⟩
  have hP : va_P (dC, dI) vwCl (va_pl L f_82) H := by rw [ef_82]; exact hP
  have hD : va_D (fun q => q ∈ L) (va_pl L f_82) := by rw [ef_82]; exact hD
  have hG : GI (okc cI cL cZ cR cG cH L kd) kd L f_82 := by rw [ef_82]; exact hG.set a_21 (mk_503 ka_21 ⟨_, rfl, okI_cpy (fun j => by have := hbg_80 j; constructor <;> omega) hbg_78 _ _ _⟩)
  have hfo_83 : f_82 o1 = .inr (4, [.int v_2, .int v_3, .int v_4, .int v_5, .ref a_6, .ref a_7, .ref a_8, .ref a_9, .int v_10, .int v_11, .int v_12]) := by rw [ef_82, up_ne (kd_ne ka_21 ko1 (by decide))]; exact hfo_73
  have hfo_84 : f_82 o0 = .inr (4, [.int v_2, .int v_3, .int v_4, .int v_5, .ref a_18, .ref a_19, .ref a_20, .ref a_21, .int v_22, .int v_23, .int v_24]) := by rw [ef_82, up_ne (kd_ne ka_21 ko0 (by decide))]; exact hfo_74
  have hfo_85 : f_82 a_8 = .inl (cI, 20, .inl g_70) := by rw [ef_82, up_ne (kd_ne ka_21 ka_8 (by decide))]; exact hfo_75
  have hfo_86 : f_82 a_9 = .inl (cI, 8, .inl g_80) := by rw [ef_82, up_ne (kd_ne ka_21 ka_9 (by decide))]; exact hfo_79
  have hfr0 : ∀ b, kd b ≠ 4 → kd b ≠ 5 → kd b ≠ 500 → kd b ≠ 501 → kd b ≠ 502 → kd b ≠ 503 → f_82 b = f b := fun b q4 q5 q500 q501 q502 q503 => (congrFun ef_82 b).trans ((up_ne (fun e9 => q503 (by rw [e9]; exact ka_21))).trans (hfr0 b q4 q5 q500 q501 q502 q503))
  have hfo_87 : f_82 a_21 = .inl (cI, 8, .inl (va_cpy g_80 g_78 (Int32.toNatClampNeg 0) (Int32.toNatClampNeg 0) (Int32.toNatClampNeg 8))) := by rw [ef_82]; exact up_self
  refine lv_aload_n hx hb dX4_copyFrom_90 rfl (lv_at hl 0 rfl) ?_
  refine lv_aload_n hx hb dX4_copyFrom_91 rfl (lv_at hl 1 rfl) ?_
  refine tk_getP (D := (dC, dI)) (ci := 4) (v := .int v_10) (C := RX4) (T := TX4) (N := 11) hx hb hU inlX4 hown hK hP mo1 hfo_83 rfl 8 (by decide) (hU _ wd_493) (fun _ h9 => h9) rfl dX4_copyFrom_92 ?_
  refine tk_putP (D := (dC, dI)) (ci := 4) (v := .int v_10) (ty := .int) (C := RX4) (T := TX4) (N := 11) hx hb hU inlX4 tyX4 tyX4_ok nmX4 hown hK hP hD hS mo0 hfo_84 rfl 8 (by decide) (hU _ wd_493) (fun _ h9 => h9) rfl (by decide +kernel) rfl rfl (Nat.le_of_ble_eq_true rfl) dX4_copyFrom_95 (fun H locs hP hD hS => ?_)
  obtain ⟨f_89, ef_89⟩ : ∃ y : Nat → va_E, y = va_up f_82 o0 (.inr (4, [.int v_2, .int v_3, .int v_4, .int v_5, .ref a_18, .ref a_19, .ref a_20, .ref a_21, .int v_10, .int v_23, .int v_24])) := ⟨_, rfl⟩
  have hP : va_P (dC, dI) vwCl (va_pl L f_89) H := by rw [ef_89]; exact hP
  have hD : va_D (fun q => q ∈ L) (va_pl L f_89) := by rw [ef_89]; exact hD
  have hG : GI (okc cI cL cZ cR cG cH L kd) kd L f_89 := by rw [ef_89]; exact hG.set o0 (mk_4 ko0 ⟨v_2, v_3, v_4, v_5, a_18, a_19, a_20, a_21, v_10, v_23, v_24, rfl, (by constructor <;> omega), (by constructor <;> omega), (by constructor <;> omega), (by constructor <;> omega), ⟨ma_18, ka_18⟩, ⟨ma_19, ka_19⟩, ⟨ma_20, ka_20⟩, ⟨ma_21, ka_21⟩⟩)
  have hfo_90 : f_89 o1 = .inr (4, [.int v_2, .int v_3, .int v_4, .int v_5, .ref a_6, .ref a_7, .ref a_8, .ref a_9, .int v_10, .int v_11, .int v_12]) := by rw [ef_89, up_ne (kd_ne ko0 ko1 (by decide))]; exact hfo_83
  have hfo_91 : f_89 a_8 = .inl (cI, 20, .inl g_70) := by rw [ef_89, up_ne (kd_ne ko0 ka_8 (by decide))]; exact hfo_85
  have hfo_92 : f_89 a_9 = .inl (cI, 8, .inl g_80) := by rw [ef_89, up_ne (kd_ne ko0 ka_9 (by decide))]; exact hfo_86
  have hfr0 : ∀ b, kd b ≠ 4 → kd b ≠ 5 → kd b ≠ 500 → kd b ≠ 501 → kd b ≠ 502 → kd b ≠ 503 → f_89 b = f b := fun b q4 q5 q500 q501 q502 q503 => (congrFun ef_89 b).trans ((up_ne (fun e9 => q4 (by rw [e9]; exact ko0))).trans (hfr0 b q4 q5 q500 q501 q502 q503))
  have hfo_93 : f_89 o0 = .inr (4, [.int v_2, .int v_3, .int v_4, .int v_5, .ref a_18, .ref a_19, .ref a_20, .ref a_21, .int v_10, .int v_23, .int v_24]) := by rw [ef_89]; exact up_self
  refine lv_aload_n hx hb dX4_copyFrom_98 rfl (lv_at hl 0 rfl) ?_
  refine lv_aload_n hx hb dX4_copyFrom_99 rfl (lv_at hl 1 rfl) ?_
  refine tk_getP (D := (dC, dI)) (ci := 4) (v := .int v_11) (C := RX4) (T := TX4) (N := 11) hx hb hU inlX4 hown hK hP mo1 hfo_90 rfl 9 (by decide) (hU _ wd_494) (fun _ h9 => h9) rfl dX4_copyFrom_100 ?_
  refine tk_putP (D := (dC, dI)) (ci := 4) (v := .int v_11) (ty := .int) (C := RX4) (T := TX4) (N := 11) hx hb hU inlX4 tyX4 tyX4_ok nmX4 hown hK hP hD hS mo0 hfo_93 rfl 9 (by decide) (hU _ wd_494) (fun _ h9 => h9) rfl (by decide +kernel) rfl rfl (Nat.le_of_ble_eq_true rfl) dX4_copyFrom_103 (fun H locs hP hD hS => ?_)
  obtain ⟨f_95, ef_95⟩ : ∃ y : Nat → va_E, y = va_up f_89 o0 (.inr (4, [.int v_2, .int v_3, .int v_4, .int v_5, .ref a_18, .ref a_19, .ref a_20, .ref a_21, .int v_10, .int v_11, .int v_24])) := ⟨_, rfl⟩
  have hP : va_P (dC, dI) vwCl (va_pl L f_95) H := by rw [ef_95]; exact hP
  have hD : va_D (fun q => q ∈ L) (va_pl L f_95) := by rw [ef_95]; exact hD
  have hG : GI (okc cI cL cZ cR cG cH L kd) kd L f_95 := by rw [ef_95]; exact hG.set o0 (mk_4 ko0 ⟨v_2, v_3, v_4, v_5, a_18, a_19, a_20, a_21, v_10, v_11, v_24, rfl, (by constructor <;> omega), (by constructor <;> omega), (by constructor <;> omega), (by constructor <;> omega), ⟨ma_18, ka_18⟩, ⟨ma_19, ka_19⟩, ⟨ma_20, ka_20⟩, ⟨ma_21, ka_21⟩⟩)
  have hfo_96 : f_95 o1 = .inr (4, [.int v_2, .int v_3, .int v_4, .int v_5, .ref a_6, .ref a_7, .ref a_8, .ref a_9, .int v_10, .int v_11, .int v_12]) := by rw [ef_95, up_ne (kd_ne ko0 ko1 (by decide))]; exact hfo_90
  have hfo_97 : f_95 a_8 = .inl (cI, 20, .inl g_70) := by rw [ef_95, up_ne (kd_ne ko0 ka_8 (by decide))]; exact hfo_91
  have hfo_98 : f_95 a_9 = .inl (cI, 8, .inl g_80) := by rw [ef_95, up_ne (kd_ne ko0 ka_9 (by decide))]; exact hfo_92
  have hfr0 : ∀ b, kd b ≠ 4 → kd b ≠ 5 → kd b ≠ 500 → kd b ≠ 501 → kd b ≠ 502 → kd b ≠ 503 → f_95 b = f b := fun b q4 q5 q500 q501 q502 q503 => (congrFun ef_95 b).trans ((up_ne (fun e9 => q4 (by rw [e9]; exact ko0))).trans (hfr0 b q4 q5 q500 q501 q502 q503))
  have hfo_99 : f_95 o0 = .inr (4, [.int v_2, .int v_3, .int v_4, .int v_5, .ref a_18, .ref a_19, .ref a_20, .ref a_21, .int v_10, .int v_11, .int v_24]) := by rw [ef_95]; exact up_self
  refine lv_aload_n hx hb dX4_copyFrom_106 rfl (lv_at hl 0 rfl) ?_
  refine lv_aload_n hx hb dX4_copyFrom_107 rfl (lv_at hl 1 rfl) ?_
  refine tk_getP (D := (dC, dI)) (ci := 4) (v := .int v_12) (C := RX4) (T := TX4) (N := 11) hx hb hU inlX4 hown hK hP mo1 hfo_96 rfl 10 (by decide) (hU _ wd_495) (fun _ h9 => h9) rfl dX4_copyFrom_108 ?_
  refine tk_putP (D := (dC, dI)) (ci := 4) (v := .int v_12) (ty := .int) (C := RX4) (T := TX4) (N := 11) hx hb hU inlX4 tyX4 tyX4_ok nmX4 hown hK hP hD hS mo0 hfo_99 rfl 10 (by decide) (hU _ wd_495) (fun _ h9 => h9) rfl (by decide +kernel) rfl rfl (Nat.le_of_ble_eq_true rfl) dX4_copyFrom_111 (fun H locs hP hD hS => ?_)
  obtain ⟨f_101, ef_101⟩ : ∃ y : Nat → va_E, y = va_up f_95 o0 (.inr (4, [.int v_2, .int v_3, .int v_4, .int v_5, .ref a_18, .ref a_19, .ref a_20, .ref a_21, .int v_10, .int v_11, .int v_12])) := ⟨_, rfl⟩
  have hP : va_P (dC, dI) vwCl (va_pl L f_101) H := by rw [ef_101]; exact hP
  have hD : va_D (fun q => q ∈ L) (va_pl L f_101) := by rw [ef_101]; exact hD
  have hG : GI (okc cI cL cZ cR cG cH L kd) kd L f_101 := by rw [ef_101]; exact hG.set o0 (mk_4 ko0 ⟨v_2, v_3, v_4, v_5, a_18, a_19, a_20, a_21, v_10, v_11, v_12, rfl, (by constructor <;> omega), (by constructor <;> omega), (by constructor <;> omega), (by constructor <;> omega), ⟨ma_18, ka_18⟩, ⟨ma_19, ka_19⟩, ⟨ma_20, ka_20⟩, ⟨ma_21, ka_21⟩⟩)
  have hfo_102 : f_101 o1 = .inr (4, [.int v_2, .int v_3, .int v_4, .int v_5, .ref a_6, .ref a_7, .ref a_8, .ref a_9, .int v_10, .int v_11, .int v_12]) := by rw [ef_101, up_ne (kd_ne ko0 ko1 (by decide))]; exact hfo_96
  have hfo_103 : f_101 a_8 = .inl (cI, 20, .inl g_70) := by rw [ef_101, up_ne (kd_ne ko0 ka_8 (by decide))]; exact hfo_97
  have hfo_104 : f_101 a_9 = .inl (cI, 8, .inl g_80) := by rw [ef_101, up_ne (kd_ne ko0 ka_9 (by decide))]; exact hfo_98
  have hfr0 : ∀ b, kd b ≠ 4 → kd b ≠ 5 → kd b ≠ 500 → kd b ≠ 501 → kd b ≠ 502 → kd b ≠ 503 → f_101 b = f b := fun b q4 q5 q500 q501 q502 q503 => (congrFun ef_101 b).trans ((up_ne (fun e9 => q4 (by rw [e9]; exact ko0))).trans (hfr0 b q4 q5 q500 q501 q502 q503))
  have hfo_105 : f_101 o0 = .inr (4, [.int v_2, .int v_3, .int v_4, .int v_5, .ref a_18, .ref a_19, .ref a_20, .ref a_21, .int v_10, .int v_11, .int v_12]) := by rw [ef_101]; exact up_self
  exact W.vret hx hb hr (fun t ht hW => ⟨⟨f_101, rfl, ⟨hG, hfr0⟩, by rw [ht]; exact hP, va_K.moved hW.alike hK, pl_in hD⟩, hS.F ht⟩) hS.2.2 dX4_copyFrom_114
set_option maxHeartbeats 8000000 in
set_option maxRecDepth 100000 in
theorem s_X4_compile_k204_k207 (l : Launch) (D : va_G) (cI cL cZ cR cG cH : ClassId) (Z : zT) (kd : Nat → Nat) (L : List Nat) (f : Nat → va_E) (hG : GI (okc cI cL cZ cR cG cH L kd) kd L f) (o0 : Nat) (mo0 : o0 ∈ L) (ko0 : kd o0 = 204) (o1 : Nat) (mo1 : o1 ∈ L) (ko1 : kd o1 = 207) : mPV l D cI cL cZ cR cG cH Z yX4_compile cX4_compile 5 none 3 64 [.ref o0, .ref o1] L f (fun (f9 : Nat → va_E) => GI (okc cI cL cZ cR cG cH L kd) kd L f9 ∧ (∀ b, kd b ≠ 204 → kd b ≠ 559 → kd b ≠ 560 → kd b ≠ 561 → f9 b = f b) ∧ (∀ b, kd b = 204 → fldI (f9 b) 1 = fldI (f b) 1) ∧ (∀ b, kd b = 204 → fldI (f9 b) 3 = fldI (f b) 3)) := by
  obtain ⟨dC, dI⟩ := D
  refine Met.ofW (cc := cX4_compile) (maxL := 5) (ret := none) (by decide) rfl ?_
  intro p e s m args below meth c s₁ B hml hv
  obtain ⟨rfl, hP, hK, hD0, hN, hZ⟩ := hv
  have hx := B.exec
  have hb := B.bytes
  have hr := B.returns
  have hU : ∀ w ∈ wsU, w.before _ s = true := fun w h => atoms_spec (ws := wU yX4_compile cX4_compile 5 none) B.pre w (List.mem_cons_of_mem _ h)
  have hown : s.vm.findClass RX4 = some m.cls := findClass_of_methodNamed B.named
  have hlocks := B.notSynchronized
  have hD := pl_in hD0
  have hS : va_S (fun q => q ∈ L) s.heap s.heap [] := va_S.rf
  have hl := lv_entry ([.ref o0, .ref o1]) (n := 5) (Nat.le_of_ble_eq_true rfl)
  rw [lg_entry_eq]
  generalize (lg_sl ([.ref o0, .ref o1]) ++ List.replicate (5 - (lg_sl ([.ref o0, .ref o1])).length) Slot.unset).toArray = ls at hl ⊢
  have hl : lv_has ls 5 [(0, .ref o0), (1, .ref o1)] := hl
  have hfr0 : ∀ b, kd b ≠ 204 → kd b ≠ 559 → kd b ≠ 560 → kd b ≠ 561 → f b = f b := fun _ _ _ _ _ => rfl
  have hfr204_1 : ∀ b, kd b = 204 → fldI (f b) 1 = fldI (f b) 1 := fun _ _ => rfl
  have hfr204_3 : ∀ b, kd b = 204 → fldI (f b) 3 = fldI (f b) 3 := fun _ _ => rfl
  refine lv_aload_n hx hb dX4_compile_0 rfl (lv_at hl 0 rfl) ?_
  obtain ⟨v_2, v_3, v_4, v_5, a_6, a_7, a_8, a_9, v_10, v_11, v_12, hfo_1, bv_2, bv_3, bv_4, bv_5, ⟨ma_6, ka_6⟩, ⟨ma_7, ka_7⟩, ⟨ma_8, ka_8⟩, ⟨ma_9, ka_9⟩⟩ := un_204 (hG _ mo0) ko0
  have bv_10 : ((-2147483648) ≤ v_10.toInt ∧ v_10.toInt ≤ 2147483647) := ⟨i32_lo _, i32_hi _⟩
  have bv_11 : ((-2147483648) ≤ v_11.toInt ∧ v_11.toInt ≤ 2147483647) := ⟨i32_lo _, i32_hi _⟩
  have bv_12 : ((-2147483648) ≤ v_12.toInt ∧ v_12.toInt ≤ 2147483647) := ⟨i32_lo _, i32_hi _⟩
  refine tk_getP (D := (dC, dI)) (ci := 4) (v := .ref a_6) (C := RX4) (T := TX4) (N := 11) hx hb hU inlX4 hown hK hP mo0 hfo_1 rfl 4 (by decide) (hU _ wd_103) (fun _ h9 => h9) rfl dX4_compile_1 ?_
  refine lv_aload_n hx hb dX4_compile_4 rfl (lv_at hl 1 rfl) ?_
  obtain ⟨a_14, a_15, a_16, v_17, v_18, v_19, hfo_13, ⟨ma_14, ka_14⟩, ⟨ma_15, ka_15⟩, ⟨ma_16, ka_16⟩⟩ := un_205 (hG _ ma_6) ka_6
  have bv_17 : ((-2147483648) ≤ v_17.toInt ∧ v_17.toInt ≤ 2147483647) := ⟨i32_lo _, i32_hi _⟩
  have bv_18 : ((-2147483648) ≤ v_18.toInt ∧ v_18.toInt ≤ 2147483647) := ⟨i32_lo _, i32_hi _⟩
  have bv_19 : ((-2147483648) ≤ v_19.toInt ∧ v_19.toInt ≤ 2147483647) := ⟨i32_lo _, i32_hi _⟩
  refine tk_VvP (As := [.ref o1]) (rest := []) (n := 1) hx hb hml hown hU hN hZ (s_X5_compile_k205_k207 l (dC, dI) cI cL cZ cR cG cH Z kd L f hG a_6 ma_6 ka_6 o1 mo1 ko1) wd_496 wd_497 wd_498 wd_102 wd_499 (by decide +kernel) ⟨Nat.le_of_ble_eq_true rfl, Nat.le_of_ble_eq_true rfl⟩ hK hP hD hS ma_6 hfo_13 5 rfl rfl rfl hl.1 rfl (Nat.le_of_ble_eq_true rfl) dX4_compile_5 ⟨Nat.le_of_ble_eq_true rfl, Nat.le_of_ble_eq_true rfl⟩ (fun f_21 H locs hw hP hD hS => ?_)
  obtain ⟨hG, hkc_22⟩ := hw
  have hfo_24 : f_21 o0 = .inr (4, [.int v_2, .int v_3, .int v_4, .int v_5, .ref a_6, .ref a_7, .ref a_8, .ref a_9, .int v_10, .int v_11, .int v_12]) := by rw [hkc_22 o0 (by rw [ko0]; decide)]; exact hfo_1
  have hfo_25 : f_21 a_6 = .inr (5, [.ref a_14, .ref a_15, .ref a_16, .int v_17, .int v_18, .int v_19]) := by rw [hkc_22 a_6 (by rw [ka_6]; decide)]; exact hfo_13
  have hfr0 : ∀ b, kd b ≠ 204 → kd b ≠ 559 → kd b ≠ 560 → kd b ≠ 561 → f_21 b = f b := fun b q204 q559 q560 q561 => (hkc_22 b q559).trans (hfr0 b q204 q559 q560 q561)
  have hfr204_1 : ∀ b, kd b = 204 → fldI (f_21 b) 1 = fldI (f b) 1 := fun b kb => (congrArg (fun x => fldI x 1) (hkc_22 b (by rw [kb]; decide))).trans (hfr204_1 b kb)
  have hfr204_3 : ∀ b, kd b = 204 → fldI (f_21 b) 3 = fldI (f b) 3 := fun b kb => (congrArg (fun x => fldI x 3) (hkc_22 b (by rw [kb]; decide))).trans (hfr204_3 b kb)
  refine lv_aload_n hx hb dX4_compile_8 rfl (lv_at hl 0 rfl) ?_
  refine tk_getP (D := (dC, dI)) (ci := 4) (v := .ref a_7) (C := RX4) (T := TX4) (N := 11) hx hb hU inlX4 hown hK hP mo0 hfo_24 rfl 5 (by decide) (hU _ wd_104) (fun _ h9 => h9) rfl dX4_compile_9 ?_
  refine lv_aload_n hx hb dX4_compile_12 rfl (lv_at hl 1 rfl) ?_
  obtain ⟨a_27, a_28, a_29, v_30, v_31, v_32, hfo_26, ⟨ma_27, ka_27⟩, ⟨ma_28, ka_28⟩, ⟨ma_29, ka_29⟩⟩ := un_205 (hG _ ma_7) ka_7
  have bv_30 : ((-2147483648) ≤ v_30.toInt ∧ v_30.toInt ≤ 2147483647) := ⟨i32_lo _, i32_hi _⟩
  have bv_31 : ((-2147483648) ≤ v_31.toInt ∧ v_31.toInt ≤ 2147483647) := ⟨i32_lo _, i32_hi _⟩
  have bv_32 : ((-2147483648) ≤ v_32.toInt ∧ v_32.toInt ≤ 2147483647) := ⟨i32_lo _, i32_hi _⟩
  refine tk_VvP (As := [.ref o1]) (rest := []) (n := 1) hx hb hml hown hU hN hZ (s_X5_compile_k205_k207 l (dC, dI) cI cL cZ cR cG cH Z kd L f_21 hG a_7 ma_7 ka_7 o1 mo1 ko1) wd_496 wd_497 wd_498 wd_102 wd_499 (by decide +kernel) ⟨Nat.le_of_ble_eq_true rfl, Nat.le_of_ble_eq_true rfl⟩ hK hP hD hS ma_7 hfo_26 5 rfl rfl rfl hl.1 rfl (Nat.le_of_ble_eq_true rfl) dX4_compile_13 ⟨Nat.le_of_ble_eq_true rfl, Nat.le_of_ble_eq_true rfl⟩ (fun f_34 H locs hw hP hD hS => ?_)
  obtain ⟨hG, hkc_35⟩ := hw
  have hfo_37 : f_34 o0 = .inr (4, [.int v_2, .int v_3, .int v_4, .int v_5, .ref a_6, .ref a_7, .ref a_8, .ref a_9, .int v_10, .int v_11, .int v_12]) := by rw [hkc_35 o0 (by rw [ko0]; decide)]; exact hfo_24
  have hfo_38 : f_34 a_6 = .inr (5, [.ref a_14, .ref a_15, .ref a_16, .int v_17, .int v_18, .int v_19]) := by rw [hkc_35 a_6 (by rw [ka_6]; decide)]; exact hfo_25
  have hfo_39 : f_34 a_7 = .inr (5, [.ref a_27, .ref a_28, .ref a_29, .int v_30, .int v_31, .int v_32]) := by rw [hkc_35 a_7 (by rw [ka_7]; decide)]; exact hfo_26
  have hfr0 : ∀ b, kd b ≠ 204 → kd b ≠ 559 → kd b ≠ 560 → kd b ≠ 561 → f_34 b = f b := fun b q204 q559 q560 q561 => (hkc_35 b q559).trans (hfr0 b q204 q559 q560 q561)
  have hfr204_1 : ∀ b, kd b = 204 → fldI (f_34 b) 1 = fldI (f b) 1 := fun b kb => (congrArg (fun x => fldI x 1) (hkc_35 b (by rw [kb]; decide))).trans (hfr204_1 b kb)
  have hfr204_3 : ∀ b, kd b = 204 → fldI (f_34 b) 3 = fldI (f b) 3 := fun b kb => (congrArg (fun x => fldI x 3) (hkc_35 b (by rw [kb]; decide))).trans (hfr204_3 b kb)
  refine lv_iconst (v := 0) hx hb dX4_compile_16 (by decide) ?_
  refine lv_istore_n (lv' := [(2, .int 0), (0, .ref o0), (1, .ref o1)]) hx hb dX4_compile_17 rfl hl (by decide) rfl (fun ls hl => ?_)
  have hloop_61 : ∀ (n : Nat), ∀ (y_62 : Int32), (0 ≤ y_62.toInt ∧ y_62.toInt ≤ 20) → ∀ (f_64 : Nat → va_E), GI (okc cI cL cZ cR cG cH L kd) kd L f_64 → ∀ (H : Heap) (locs : List Loc), va_P (dC, dI) vwCl (va_pl L f_64) H → va_S (fun q => q ∈ L) s.heap H locs → va_D (fun q => q ∈ L) (va_pl L f_64) → (∀ b, kd b ≠ 204 → kd b ≠ 559 → kd b ≠ 560 → kd b ≠ 561 → f_64 b = f b) → (∀ b, kd b = 204 → fldI (f_64 b) 1 = fldI (f b) 1) → (∀ b, kd b = 204 → fldI (f_64 b) 3 = fldI (f b) 3) → (f_64 o0 = .inr (4, [.int v_2, .int v_3, .int v_4, .int v_5, .ref a_6, .ref a_7, .ref a_8, .ref a_9, .int v_10, .int v_11, .int v_12])) → (f_64 a_6 = .inr (5, [.ref a_14, .ref a_15, .ref a_16, .int v_17, .int v_18, .int v_19])) → (f_64 a_7 = .inr (5, [.ref a_27, .ref a_28, .ref a_29, .int v_30, .int v_31, .int v_32])) → 20 - y_62.toInt < (n : Int) → ∀ (ls : Array Slot), lv_has ls 5 [(2, .int y_62), (0, .ref o0), (1, .ref o1)] → W p l e (headSpec (wU yX4_compile cX4_compile 5 none) { frames := 3, cells := 0, slots := 0, locals := 64 }).room s m [.ref o0, .ref o1].toArray below meth c H locs 0 0 (MQ below (va_Qv (fun (f9 : Nat → va_E) => GI (okc cI cL cZ cR cG cH L kd) kd L f9 ∧ (∀ b, kd b ≠ 204 → kd b ≠ 559 → kd b ≠ 560 → kd b ≠ 561 → f9 b = f b) ∧ (∀ b, kd b = 204 → fldI (f9 b) 1 = fldI (f b) 1) ∧ (∀ b, kd b = 204 → fldI (f9 b) 3 = fldI (f b) 3)) (qP (dC, dI) cI cL cZ cR cG cH L) (fun q => q ∈ L)) [.ref o0, .ref o1].toArray s 0 0 (fun q => q ∈ L)) (F0 m 18 ls []) := by
    intro n
    induction n with
    | zero => intro y_62 by_62 f_64 hG H locs hP hS hD hfr0 hfr204_1 hfr204_3 hfo_65 hfo_66 hfo_67 hmuhloop_61 ls hl; exfalso; omega
    | succ n ih_hloop_61 =>
      intro y_62 by_62 f_64 hG H locs hP hS hD hfr0 hfr204_1 hfr204_3 hfo_65 hfo_66 hfo_67 hmuhloop_61 ls hl
      refine lv_iload_n hx hb dX4_compile_18 rfl (lv_at hl 0 rfl) ?_
      refine lv_aload_n hx hb dX4_compile_19 rfl (lv_at hl 2 rfl) ?_
      obtain ⟨a_69, v_70, a_71, a_72, a_73, a_74, v_75, a_76, a_77, a_78, a_79, a_80, v_81, a_82, a_83, a_84, hfo_68, ⟨ma_69, ka_69⟩, bv_70, ⟨ma_71, ka_71⟩, ⟨ma_72, ka_72⟩, ⟨ma_73, ka_73⟩, ⟨ma_74, ka_74⟩, bv_75, ⟨ma_76, ka_76⟩, ⟨ma_77, ka_77⟩, ⟨ma_78, ka_78⟩, ⟨ma_79, ka_79⟩, ⟨ma_80, ka_80⟩, bv_81, ⟨ma_82, ka_82⟩, ⟨ma_83, ka_83⟩, ⟨ma_84, ka_84⟩⟩ := un_207 (hG _ mo1) ko1
      refine tk_getP (D := (dC, dI)) (ci := 7) (v := .int v_75) (C := RX7) (T := TX7) (N := 16) hx hb hU inlX7 hown hK hP mo1 hfo_68 rfl 6 (by decide) (hU _ wd_489) (fun _ h9 => h9) rfl dX4_compile_20 ?_
      refine lv_icmp_ge (tgt := 54) hx hb dX4_compile_23 (by decide) (fun c_85 => ?_) (fun c_85 => ?_)
      · skip
        rw [Int32.le_iff_toInt_le] at c_85
        refine lv_iconst (v := 0) hx hb dX4_compile_54 (by decide) ?_
        refine lv_istore_n (lv' := [(2, .int 0), (0, .ref o0), (1, .ref o1)]) hx hb dX4_compile_55 rfl hl (by decide) rfl (fun ls hl => ?_)
        have hloop_110 : ∀ (n : Nat), ∀ (y_111 : Int32), (0 ≤ y_111.toInt ∧ y_111.toInt ≤ 8) → ∀ (f_113 : Nat → va_E), GI (okc cI cL cZ cR cG cH L kd) kd L f_113 → ∀ (H : Heap) (locs : List Loc), va_P (dC, dI) vwCl (va_pl L f_113) H → va_S (fun q => q ∈ L) s.heap H locs → va_D (fun q => q ∈ L) (va_pl L f_113) → (∀ b, kd b ≠ 204 → kd b ≠ 559 → kd b ≠ 560 → kd b ≠ 561 → f_113 b = f b) → (∀ b, kd b = 204 → fldI (f_113 b) 1 = fldI (f b) 1) → (∀ b, kd b = 204 → fldI (f_113 b) 3 = fldI (f b) 3) → (f_113 o0 = .inr (4, [.int v_2, .int v_3, .int v_4, .int v_5, .ref a_6, .ref a_7, .ref a_8, .ref a_9, .int v_10, .int v_11, .int v_12])) → (f_113 a_6 = .inr (5, [.ref a_14, .ref a_15, .ref a_16, .int v_17, .int v_18, .int v_19])) → (f_113 a_7 = .inr (5, [.ref a_27, .ref a_28, .ref a_29, .int v_30, .int v_31, .int v_32])) → (f_113 o1 = .inr (7, [.ref a_69, .int v_70, .ref a_71, .ref a_72, .ref a_73, .ref a_74, .int v_75, .ref a_76, .ref a_77, .ref a_78, .ref a_79, .ref a_80, .int v_81, .ref a_82, .ref a_83, .ref a_84])) → 8 - y_111.toInt < (n : Int) → ∀ (ls : Array Slot), lv_has ls 5 [(2, .int y_111), (0, .ref o0), (1, .ref o1)] → W p l e (headSpec (wU yX4_compile cX4_compile 5 none) { frames := 3, cells := 0, slots := 0, locals := 64 }).room s m [.ref o0, .ref o1].toArray below meth c H locs 0 0 (MQ below (va_Qv (fun (f9 : Nat → va_E) => GI (okc cI cL cZ cR cG cH L kd) kd L f9 ∧ (∀ b, kd b ≠ 204 → kd b ≠ 559 → kd b ≠ 560 → kd b ≠ 561 → f9 b = f b) ∧ (∀ b, kd b = 204 → fldI (f9 b) 1 = fldI (f b) 1) ∧ (∀ b, kd b = 204 → fldI (f9 b) 3 = fldI (f b) 3)) (qP (dC, dI) cI cL cZ cR cG cH L) (fun q => q ∈ L)) [.ref o0, .ref o1].toArray s 0 0 (fun q => q ∈ L)) (F0 m 56 ls []) := by
          intro n
          induction n with
          | zero => intro y_111 by_111 f_113 hG H locs hP hS hD hfr0 hfr204_1 hfr204_3 hfo_114 hfo_115 hfo_116 hfo_117 hmuhloop_110 ls hl; exfalso; omega
          | succ n ih_hloop_110 =>
            intro y_111 by_111 f_113 hG H locs hP hS hD hfr0 hfr204_1 hfr204_3 hfo_114 hfo_115 hfo_116 hfo_117 hmuhloop_110 ls hl
            refine lv_iload_n hx hb dX4_compile_56 rfl (lv_at hl 0 rfl) ?_
            refine lv_bipush (v := 8) hx hb dX4_compile_57 (by decide) ?_
            refine lv_icmp_ge (tgt := 114) hx hb dX4_compile_59 (by decide) (fun c_118 => ?_) (fun c_118 => ?_)
            · skip
              rw [Int32.le_iff_toInt_le, ti_8] at c_118
              refine lv_aload_n hx hb dX4_compile_114 rfl (lv_at hl 1 rfl) ?_
              refine lv_aload_n hx hb dX4_compile_115 rfl (lv_at hl 1 rfl) ?_
              refine tk_getP (D := (dC, dI)) (ci := 4) (v := .ref a_6) (C := RX4) (T := TX4) (N := 11) hx hb hU inlX4 hown hK hP mo0 hfo_114 rfl 4 (by decide) (hU _ wd_103) (fun _ h9 => h9) rfl dX4_compile_116 ?_
              refine lv_aload_n hx hb dX4_compile_119 rfl (lv_at hl 1 rfl) ?_
              refine tk_getP (D := (dC, dI)) (ci := 4) (v := .ref a_6) (C := RX4) (T := TX4) (N := 11) hx hb hU inlX4 hown hK hP mo0 hfo_114 rfl 4 (by decide) (hU _ wd_103) (fun _ h9 => h9) rfl dX4_compile_120 ?_
              refine tk_getP (D := (dC, dI)) (ci := 5) (v := .int v_18) (C := RX5) (T := TX5) (N := 6) hx hb hU inlX5 hown hK hP ma_6 hfo_115 rfl 4 (by decide) (hU _ wd_492) (fun _ h9 => h9) rfl dX4_compile_123 ?_
              refine tk_ViP (As := [.int v_18]) (rest := [.ref o0]) (n := 1) hx hb hml hown hU hN hZ (s_X5_closure_k205 l (dC, dI) cI cL cZ cR cG cH Z kd L f_113 hG a_6 ma_6 ka_6 v_18) wd_520 wd_517 wd_518 wd_102 wd_519 (by decide +kernel) ⟨Nat.le_of_ble_eq_true rfl, Nat.le_of_ble_eq_true rfl⟩ hK hP hD hS ma_6 hfo_115 5 rfl rfl rfl hl.1 rfl (Nat.le_of_ble_eq_true rfl) dX4_compile_126 ⟨Nat.le_of_ble_eq_true rfl, Nat.le_of_ble_eq_true rfl⟩ (fun x_119 f_120 H locs hw hP hD hS => ?_)
              obtain ⟨rfl, bx_119⟩ := hw
              refine tk_putP (D := (dC, dI)) (ci := 4) (v := .int x_119) (ty := .int) (C := RX4) (T := TX4) (N := 11) hx hb hU inlX4 tyX4 tyX4_ok nmX4 hown hK hP hD hS mo0 hfo_114 rfl 8 (by decide) (hU _ wd_493) (fun _ h9 => h9) rfl (by decide +kernel) rfl rfl (Nat.le_of_ble_eq_true rfl) dX4_compile_129 (fun H locs hP hD hS => ?_)
              obtain ⟨f_123, ef_123⟩ : ∃ y : Nat → va_E, y = va_up f_113 o0 (.inr (4, [.int v_2, .int v_3, .int v_4, .int v_5, .ref a_6, .ref a_7, .ref a_8, .ref a_9, .int x_119, .int v_11, .int v_12])) := ⟨_, rfl⟩
              have hP : va_P (dC, dI) vwCl (va_pl L f_123) H := by rw [ef_123]; exact hP
              have hD : va_D (fun q => q ∈ L) (va_pl L f_123) := by rw [ef_123]; exact hD
              have hG : GI (okc cI cL cZ cR cG cH L kd) kd L f_123 := by rw [ef_123]; exact hG.set o0 (mk_204 ko0 ⟨v_2, v_3, v_4, v_5, a_6, a_7, a_8, a_9, x_119, v_11, v_12, rfl, (by constructor <;> omega), (by constructor <;> omega), (by constructor <;> omega), (by constructor <;> omega), ⟨ma_6, ka_6⟩, ⟨ma_7, ka_7⟩, ⟨ma_8, ka_8⟩, ⟨ma_9, ka_9⟩⟩)
              have hfo_124 : f_123 a_6 = .inr (5, [.ref a_14, .ref a_15, .ref a_16, .int v_17, .int v_18, .int v_19]) := by rw [ef_123, up_ne (kd_ne ko0 ka_6 (by decide))]; exact hfo_115
              have hfo_125 : f_123 a_7 = .inr (5, [.ref a_27, .ref a_28, .ref a_29, .int v_30, .int v_31, .int v_32]) := by rw [ef_123, up_ne (kd_ne ko0 ka_7 (by decide))]; exact hfo_116
              have hfo_126 : f_123 o1 = .inr (7, [.ref a_69, .int v_70, .ref a_71, .ref a_72, .ref a_73, .ref a_74, .int v_75, .ref a_76, .ref a_77, .ref a_78, .ref a_79, .ref a_80, .int v_81, .ref a_82, .ref a_83, .ref a_84]) := by rw [ef_123, up_ne (kd_ne ko0 ko1 (by decide))]; exact hfo_117
              have hfr0 : ∀ b, kd b ≠ 204 → kd b ≠ 559 → kd b ≠ 560 → kd b ≠ 561 → f_123 b = f b := fun b q204 q559 q560 q561 => (congrFun ef_123 b).trans ((up_ne (fun e9 => q204 (by rw [e9]; exact ko0))).trans (hfr0 b q204 q559 q560 q561))
              have hfr204_1 : ∀ b, kd b = 204 → fldI (f_123 b) 1 = fldI (f b) 1 := fun b kb => ((congrArg (fun x => fldI x 1) (congrFun ef_123 b)).trans (fk_up (by rw [hfo_114]; rfl) b)).trans (hfr204_1 b kb)
              have hfr204_3 : ∀ b, kd b = 204 → fldI (f_123 b) 3 = fldI (f b) 3 := fun b kb => ((congrArg (fun x => fldI x 3) (congrFun ef_123 b)).trans (fk_up (by rw [hfo_114]; rfl) b)).trans (hfr204_3 b kb)
              have hfo_127 : f_123 o0 = .inr (4, [.int v_2, .int v_3, .int v_4, .int v_5, .ref a_6, .ref a_7, .ref a_8, .ref a_9, .int x_119, .int v_11, .int v_12]) := by rw [ef_123]; exact up_self
              refine lv_aload_n hx hb dX4_compile_132 rfl (lv_at hl 1 rfl) ?_
              refine lv_aload_n hx hb dX4_compile_133 rfl (lv_at hl 1 rfl) ?_
              refine tk_getP (D := (dC, dI)) (ci := 4) (v := .ref a_6) (C := RX4) (T := TX4) (N := 11) hx hb hU inlX4 hown hK hP mo0 hfo_127 rfl 4 (by decide) (hU _ wd_103) (fun _ h9 => h9) rfl dX4_compile_134 ?_
              refine tk_ViP (As := []) (rest := [.ref o0]) (n := 0) hx hb hml hown hU hN hZ (s_X5_freeStarts_k205 l (dC, dI) cI cL cZ cR cG cH Z kd L f_123 hG a_6 ma_6 ka_6) wd_521 wd_522 wd_523 wd_102 wd_524 (by decide +kernel) ⟨Nat.le_of_ble_eq_true rfl, Nat.le_of_ble_eq_true rfl⟩ hK hP hD hS ma_6 hfo_124 5 rfl rfl rfl hl.1 rfl (Nat.le_of_ble_eq_true rfl) dX4_compile_137 ⟨Nat.le_of_ble_eq_true rfl, Nat.le_of_ble_eq_true rfl⟩ (fun x_128 f_129 H locs hw hP hD hS => ?_)
              obtain ⟨rfl, bx_128⟩ := hw
              refine tk_putP (D := (dC, dI)) (ci := 4) (v := .int x_128) (ty := .int) (C := RX4) (T := TX4) (N := 11) hx hb hU inlX4 tyX4 tyX4_ok nmX4 hown hK hP hD hS mo0 hfo_127 rfl 9 (by decide) (hU _ wd_494) (fun _ h9 => h9) rfl (by decide +kernel) rfl rfl (Nat.le_of_ble_eq_true rfl) dX4_compile_140 (fun H locs hP hD hS => ?_)
              obtain ⟨f_132, ef_132⟩ : ∃ y : Nat → va_E, y = va_up f_123 o0 (.inr (4, [.int v_2, .int v_3, .int v_4, .int v_5, .ref a_6, .ref a_7, .ref a_8, .ref a_9, .int x_119, .int x_128, .int v_12])) := ⟨_, rfl⟩
              have hP : va_P (dC, dI) vwCl (va_pl L f_132) H := by rw [ef_132]; exact hP
              have hD : va_D (fun q => q ∈ L) (va_pl L f_132) := by rw [ef_132]; exact hD
              have hG : GI (okc cI cL cZ cR cG cH L kd) kd L f_132 := by rw [ef_132]; exact hG.set o0 (mk_204 ko0 ⟨v_2, v_3, v_4, v_5, a_6, a_7, a_8, a_9, x_119, x_128, v_12, rfl, (by constructor <;> omega), (by constructor <;> omega), (by constructor <;> omega), (by constructor <;> omega), ⟨ma_6, ka_6⟩, ⟨ma_7, ka_7⟩, ⟨ma_8, ka_8⟩, ⟨ma_9, ka_9⟩⟩)
              have hfo_133 : f_132 a_6 = .inr (5, [.ref a_14, .ref a_15, .ref a_16, .int v_17, .int v_18, .int v_19]) := by rw [ef_132, up_ne (kd_ne ko0 ka_6 (by decide))]; exact hfo_124
              have hfo_134 : f_132 a_7 = .inr (5, [.ref a_27, .ref a_28, .ref a_29, .int v_30, .int v_31, .int v_32]) := by rw [ef_132, up_ne (kd_ne ko0 ka_7 (by decide))]; exact hfo_125
              have hfo_135 : f_132 o1 = .inr (7, [.ref a_69, .int v_70, .ref a_71, .ref a_72, .ref a_73, .ref a_74, .int v_75, .ref a_76, .ref a_77, .ref a_78, .ref a_79, .ref a_80, .int v_81, .ref a_82, .ref a_83, .ref a_84]) := by rw [ef_132, up_ne (kd_ne ko0 ko1 (by decide))]; exact hfo_126
              have hfr0 : ∀ b, kd b ≠ 204 → kd b ≠ 559 → kd b ≠ 560 → kd b ≠ 561 → f_132 b = f b := fun b q204 q559 q560 q561 => (congrFun ef_132 b).trans ((up_ne (fun e9 => q204 (by rw [e9]; exact ko0))).trans (hfr0 b q204 q559 q560 q561))
              have hfr204_1 : ∀ b, kd b = 204 → fldI (f_132 b) 1 = fldI (f b) 1 := fun b kb => ((congrArg (fun x => fldI x 1) (congrFun ef_132 b)).trans (fk_up (by rw [hfo_127]; rfl) b)).trans (hfr204_1 b kb)
              have hfr204_3 : ∀ b, kd b = 204 → fldI (f_132 b) 3 = fldI (f b) 3 := fun b kb => ((congrArg (fun x => fldI x 3) (congrFun ef_132 b)).trans (fk_up (by rw [hfo_127]; rfl) b)).trans (hfr204_3 b kb)
              have hfo_136 : f_132 o0 = .inr (4, [.int v_2, .int v_3, .int v_4, .int v_5, .ref a_6, .ref a_7, .ref a_8, .ref a_9, .int x_119, .int x_128, .int v_12]) := by rw [ef_132]; exact up_self
              refine lv_aload_n hx hb dX4_compile_143 rfl (lv_at hl 1 rfl) ?_
              refine lv_aload_n hx hb dX4_compile_144 rfl (lv_at hl 1 rfl) ?_
              refine tk_getP (D := (dC, dI)) (ci := 4) (v := .ref a_7) (C := RX4) (T := TX4) (N := 11) hx hb hU inlX4 hown hK hP mo0 hfo_136 rfl 5 (by decide) (hU _ wd_104) (fun _ h9 => h9) rfl dX4_compile_145 ?_
              refine tk_ViP (As := []) (rest := [.ref o0]) (n := 0) hx hb hml hown hU hN hZ (s_X5_freeFinals_k205 l (dC, dI) cI cL cZ cR cG cH Z kd L f_132 hG a_7 ma_7 ka_7) wd_526 wd_527 wd_528 wd_102 wd_529 (by decide +kernel) ⟨Nat.le_of_ble_eq_true rfl, Nat.le_of_ble_eq_true rfl⟩ hK hP hD hS ma_7 hfo_134 5 rfl rfl rfl hl.1 rfl (Nat.le_of_ble_eq_true rfl) dX4_compile_148 ⟨Nat.le_of_ble_eq_true rfl, Nat.le_of_ble_eq_true rfl⟩ (fun x_137 f_138 H locs hw hP hD hS => ?_)
              obtain ⟨rfl, bx_137⟩ := hw
              refine tk_putP (D := (dC, dI)) (ci := 4) (v := .int x_137) (ty := .int) (C := RX4) (T := TX4) (N := 11) hx hb hU inlX4 tyX4 tyX4_ok nmX4 hown hK hP hD hS mo0 hfo_136 rfl 10 (by decide) (hU _ wd_495) (fun _ h9 => h9) rfl (by decide +kernel) rfl rfl (Nat.le_of_ble_eq_true rfl) dX4_compile_151 (fun H locs hP hD hS => ?_)
              obtain ⟨f_141, ef_141⟩ : ∃ y : Nat → va_E, y = va_up f_132 o0 (.inr (4, [.int v_2, .int v_3, .int v_4, .int v_5, .ref a_6, .ref a_7, .ref a_8, .ref a_9, .int x_119, .int x_128, .int x_137])) := ⟨_, rfl⟩
              have hP : va_P (dC, dI) vwCl (va_pl L f_141) H := by rw [ef_141]; exact hP
              have hD : va_D (fun q => q ∈ L) (va_pl L f_141) := by rw [ef_141]; exact hD
              have hG : GI (okc cI cL cZ cR cG cH L kd) kd L f_141 := by rw [ef_141]; exact hG.set o0 (mk_204 ko0 ⟨v_2, v_3, v_4, v_5, a_6, a_7, a_8, a_9, x_119, x_128, x_137, rfl, (by constructor <;> omega), (by constructor <;> omega), (by constructor <;> omega), (by constructor <;> omega), ⟨ma_6, ka_6⟩, ⟨ma_7, ka_7⟩, ⟨ma_8, ka_8⟩, ⟨ma_9, ka_9⟩⟩)
              have hfo_142 : f_141 a_6 = .inr (5, [.ref a_14, .ref a_15, .ref a_16, .int v_17, .int v_18, .int v_19]) := by rw [ef_141, up_ne (kd_ne ko0 ka_6 (by decide))]; exact hfo_133
              have hfo_143 : f_141 a_7 = .inr (5, [.ref a_27, .ref a_28, .ref a_29, .int v_30, .int v_31, .int v_32]) := by rw [ef_141, up_ne (kd_ne ko0 ka_7 (by decide))]; exact hfo_134
              have hfo_144 : f_141 o1 = .inr (7, [.ref a_69, .int v_70, .ref a_71, .ref a_72, .ref a_73, .ref a_74, .int v_75, .ref a_76, .ref a_77, .ref a_78, .ref a_79, .ref a_80, .int v_81, .ref a_82, .ref a_83, .ref a_84]) := by rw [ef_141, up_ne (kd_ne ko0 ko1 (by decide))]; exact hfo_135
              have hfr0 : ∀ b, kd b ≠ 204 → kd b ≠ 559 → kd b ≠ 560 → kd b ≠ 561 → f_141 b = f b := fun b q204 q559 q560 q561 => (congrFun ef_141 b).trans ((up_ne (fun e9 => q204 (by rw [e9]; exact ko0))).trans (hfr0 b q204 q559 q560 q561))
              have hfr204_1 : ∀ b, kd b = 204 → fldI (f_141 b) 1 = fldI (f b) 1 := fun b kb => ((congrArg (fun x => fldI x 1) (congrFun ef_141 b)).trans (fk_up (by rw [hfo_136]; rfl) b)).trans (hfr204_1 b kb)
              have hfr204_3 : ∀ b, kd b = 204 → fldI (f_141 b) 3 = fldI (f b) 3 := fun b kb => ((congrArg (fun x => fldI x 3) (congrFun ef_141 b)).trans (fk_up (by rw [hfo_136]; rfl) b)).trans (hfr204_3 b kb)
              have hfo_145 : f_141 o0 = .inr (4, [.int v_2, .int v_3, .int v_4, .int v_5, .ref a_6, .ref a_7, .ref a_8, .ref a_9, .int x_119, .int x_128, .int x_137]) := by rw [ef_141]; exact up_self
              exact W.vret hx hb hr (fun t ht hW => ⟨⟨f_141, rfl, ⟨hG, hfr0, hfr204_1, hfr204_3⟩, by rw [ht]; exact hP, va_K.moved hW.alike hK, pl_in hD⟩, hS.F ht⟩) hS.2.2 dX4_compile_154
            · skip
              rw [Int32.le_iff_toInt_le, ti_8] at c_118
              refine lv_iconst (v := 0) hx hb dX4_compile_62 (by decide) ?_
              refine lv_istore_n (lv' := [(3, .int 0), (2, .int y_111), (0, .ref o0), (1, .ref o1)]) hx hb dX4_compile_63 rfl hl (by decide) rfl (fun ls hl => ?_)
              refine lv_iconst (v := 0) hx hb dX4_compile_64 (by decide) ?_
              refine lv_istore (lv' := [(4, .int 0), (3, .int 0), (2, .int y_111), (0, .ref o0), (1, .ref o1)]) hx hb dX4_compile_65 hl (by decide) rfl (fun ls hl => ?_)
              have hloop_173 : ∀ (n : Nat), ∀ (y_174 : Int32), (0 ≤ y_174.toInt ∧ y_174.toInt ≤ 3) → ∀ (y_175 : Int32), ((-2147483648) ≤ y_175.toInt ∧ y_175.toInt ≤ 2147483647) → ∀ (H : Heap) (locs : List Loc), va_P (dC, dI) vwCl (va_pl L f_113) H → va_S (fun q => q ∈ L) s.heap H locs → 3 - y_174.toInt < (n : Int) → ∀ (ls : Array Slot), lv_has ls 5 [(4, .int y_174), (3, .int y_175), (2, .int y_111), (0, .ref o0), (1, .ref o1)] → W p l e (headSpec (wU yX4_compile cX4_compile 5 none) { frames := 3, cells := 0, slots := 0, locals := 64 }).room s m [.ref o0, .ref o1].toArray below meth c H locs 0 0 (MQ below (va_Qv (fun (f9 : Nat → va_E) => GI (okc cI cL cZ cR cG cH L kd) kd L f9 ∧ (∀ b, kd b ≠ 204 → kd b ≠ 559 → kd b ≠ 560 → kd b ≠ 561 → f9 b = f b) ∧ (∀ b, kd b = 204 → fldI (f9 b) 1 = fldI (f b) 1) ∧ (∀ b, kd b = 204 → fldI (f9 b) 3 = fldI (f b) 3)) (qP (dC, dI) cI cL cZ cR cG cH L) (fun q => q ∈ L)) [.ref o0, .ref o1].toArray s 0 0 (fun q => q ∈ L)) (F0 m 67 ls []) := by
                intro n
                induction n with
                | zero => intro y_174 by_174 y_175 by_175 H locs hP hS hmuhloop_173 ls hl; exfalso; omega
                | succ n ih_hloop_173 =>
                  intro y_174 by_174 y_175 by_175 H locs hP hS hmuhloop_173 ls hl
                  refine lv_iload hx hb dX4_compile_67 (lv_at hl 0 rfl) ?_
                  refine lv_iconst (v := 3) hx hb dX4_compile_69 (by decide) ?_
                  refine lv_icmp_ge (tgt := 101) hx hb dX4_compile_70 (by decide) (fun c_177 => ?_) (fun c_177 => ?_)
                  · skip
                    rw [Int32.le_iff_toInt_le, ti_3] at c_177
                    refine lv_aload_n hx hb dX4_compile_101 rfl (lv_at hl 3 rfl) ?_
                    refine tk_getP (D := (dC, dI)) (ci := 4) (v := .ref a_9) (C := RX4) (T := TX4) (N := 11) hx hb hU inlX4 hown hK hP mo0 hfo_114 rfl 7 (by decide) (hU _ wd_106) (fun _ h9 => h9) rfl dX4_compile_102 ?_
                    refine lv_iload_n hx hb dX4_compile_105 rfl (lv_at hl 2 rfl) ?_
                    refine lv_iload_n hx hb dX4_compile_106 rfl (lv_at hl 1 rfl) ?_
                    obtain ⟨g_179, hfo_178, hbg_179⟩ := un_561 (hG _ ma_9) ka_9
                    refine tk_istP hx hb hK hP hD hS 0 ma_9 hfo_178 rfl (vp_in_iff.mpr (by constructor <;> omega)) dX4_compile_107 (fun H locs hP hD hS => ?_)
                    obtain ⟨f_181, ef_181⟩ : ∃ y : Nat → va_E, y = va_up f_113 a_9 (.inl (cI, 8, .inl (upd g_179 (Int32.toNatClampNeg y_111) y_175))) := ⟨_, rfl⟩
                    have hP : va_P (dC, dI) vwCl (va_pl L f_181) H := by rw [ef_181]; exact hP
                    have hD : va_D (fun q => q ∈ L) (va_pl L f_181) := by rw [ef_181]; exact hD
                    have hG : GI (okc cI cL cZ cR cG cH L kd) kd L f_181 := by rw [ef_181]; exact hG.set a_9 (mk_561 ka_9 ⟨_, rfl, okI_up hbg_179 ⟨i32_lo _, i32_hi _⟩ _⟩)
                    have hfo_182 : f_181 o0 = .inr (4, [.int v_2, .int v_3, .int v_4, .int v_5, .ref a_6, .ref a_7, .ref a_8, .ref a_9, .int v_10, .int v_11, .int v_12]) := by rw [ef_181, up_ne (kd_ne ka_9 ko0 (by decide))]; exact hfo_114
                    have hfo_183 : f_181 a_6 = .inr (5, [.ref a_14, .ref a_15, .ref a_16, .int v_17, .int v_18, .int v_19]) := by rw [ef_181, up_ne (kd_ne ka_9 ka_6 (by decide))]; exact hfo_115
                    have hfo_184 : f_181 a_7 = .inr (5, [.ref a_27, .ref a_28, .ref a_29, .int v_30, .int v_31, .int v_32]) := by rw [ef_181, up_ne (kd_ne ka_9 ka_7 (by decide))]; exact hfo_116
                    have hfo_185 : f_181 o1 = .inr (7, [.ref a_69, .int v_70, .ref a_71, .ref a_72, .ref a_73, .ref a_74, .int v_75, .ref a_76, .ref a_77, .ref a_78, .ref a_79, .ref a_80, .int v_81, .ref a_82, .ref a_83, .ref a_84]) := by rw [ef_181, up_ne (kd_ne ka_9 ko1 (by decide))]; exact hfo_117
                    have hfr0 : ∀ b, kd b ≠ 204 → kd b ≠ 559 → kd b ≠ 560 → kd b ≠ 561 → f_181 b = f b := fun b q204 q559 q560 q561 => (congrFun ef_181 b).trans ((up_ne (fun e9 => q561 (by rw [e9]; exact ka_9))).trans (hfr0 b q204 q559 q560 q561))
                    have hfr204_1 : ∀ b, kd b = 204 → fldI (f_181 b) 1 = fldI (f b) 1 := fun b kb => (congrArg (fun x => fldI x 1) ((congrFun ef_181 b).trans (up_ne (kd_ne ka_9 kb (by decide))))).trans (hfr204_1 b kb)
                    have hfr204_3 : ∀ b, kd b = 204 → fldI (f_181 b) 3 = fldI (f b) 3 := fun b kb => (congrArg (fun x => fldI x 3) ((congrFun ef_181 b).trans (up_ne (kd_ne ka_9 kb (by decide))))).trans (hfr204_3 b kb)
                    have hfo_186 : f_181 a_9 = .inl (cI, 8, .inl (upd g_179 (Int32.toNatClampNeg y_111) y_175)) := by rw [ef_181]; exact up_self
                    obtain ⟨x_187, ex_187⟩ : ∃ y : Int32, y_111 + 1 = y := ⟨_, rfl⟩
                    have hx_187 : x_187.toInt = y_111.toInt + 1 := by rw [← ex_187, ad_I (by rw [ti_1]; omega) (by rw [ti_1]; omega), ti_1]
                    have bx_187 : (1 ≤ x_187.toInt ∧ x_187.toInt ≤ 8) := by constructor <;> omega
                    refine lv_iinc (v := x_187) (lv' := [(2, .int x_187), (4, .int y_174), (3, .int y_175), (0, .ref o0), (1, .ref o1)]) hx hb dX4_compile_108 hl (k := 2) rfl ex_187 (by decide) rfl (fun ls hl => ?_)
                    refine lv_goto (tgt := 56) hx hb dX4_compile_111 (by decide) ?_
                    exact ih_hloop_110 x_187 (by constructor <;> omega) f_181 hG _ _ hP hS hD hfr0 hfr204_1 hfr204_3 hfo_182 hfo_183 hfo_184 hfo_185 (by omega) ls (lv_sub hl [0, 3, 4] rfl)
                  · skip
                    rw [Int32.le_iff_toInt_le, ti_3] at c_177
                    refine lv_iload_n hx hb dX4_compile_73 rfl (lv_at hl 2 rfl) ?_
                    refine lv_iload hx hb dX4_compile_74 (lv_at hl 0 rfl) ?_
                    refine lv_ishr hx hb dX4_compile_76 ?_
                    refine lv_topi (fun x_188 ex_188 => ?_)
                    have bx_188 : ((-2147483648) ≤ x_188.toInt ∧ x_188.toInt ≤ 2147483647) := ⟨i32_lo _, i32_hi _⟩
                    refine lv_iconst (v := 1) hx hb dX4_compile_77 (by decide) ?_
                    refine lv_iand hx hb dX4_compile_78 ?_
                    refine lv_topi (fun x_189 ex_189 => ?_)
                    have bx_189 : (0 ≤ x_189.toInt ∧ x_189.toInt ≤ 1) := by rw [ex_189]; have h8 := an_C x_188 (m := 1) (by decide); rw [ti_1] at h8; exact h8
                    refine lv_iconst (v := 1) hx hb dX4_compile_79 (by decide) ?_
                    have hcut_192 : ∀ (y_190 : Int32), ((-2147483648) ≤ y_190.toInt ∧ y_190.toInt ≤ 2147483647) → ∀ (H : Heap) (locs : List Loc), va_P (dC, dI) vwCl (va_pl L f_113) H → va_S (fun q => q ∈ L) s.heap H locs → ∀ (ls : Array Slot), lv_has ls 5 [(4, .int y_174), (3, .int y_190), (2, .int y_111), (0, .ref o0), (1, .ref o1)] → W p l e (headSpec (wU yX4_compile cX4_compile 5 none) { frames := 3, cells := 0, slots := 0, locals := 64 }).room s m [.ref o0, .ref o1].toArray below meth c H locs 0 0 (MQ below (va_Qv (fun (f9 : Nat → va_E) => GI (okc cI cL cZ cR cG cH L kd) kd L f9 ∧ (∀ b, kd b ≠ 204 → kd b ≠ 559 → kd b ≠ 560 → kd b ≠ 561 → f9 b = f b) ∧ (∀ b, kd b = 204 → fldI (f9 b) 1 = fldI (f b) 1) ∧ (∀ b, kd b = 204 → fldI (f9 b) 3 = fldI (f b) 3)) (qP (dC, dI) cI cL cZ cR cG cH L) (fun q => q ∈ L)) [.ref o0, .ref o1].toArray s 0 0 (fun q => q ∈ L)) (F0 m 95 ls []) := by
                      intro y_190 by_190 H locs hP hS ls hl
                      obtain ⟨x_193, ex_193⟩ : ∃ y : Int32, y_174 + 1 = y := ⟨_, rfl⟩
                      have hx_193 : x_193.toInt = y_174.toInt + 1 := by rw [← ex_193, ad_I (by rw [ti_1]; omega) (by rw [ti_1]; omega), ti_1]
                      have bx_193 : (1 ≤ x_193.toInt ∧ x_193.toInt ≤ 3) := by constructor <;> omega
                      refine lv_iinc (v := x_193) (lv' := [(4, .int x_193), (3, .int y_190), (2, .int y_111), (0, .ref o0), (1, .ref o1)]) hx hb dX4_compile_95 hl (k := 0) rfl ex_193 (by decide) rfl (fun ls hl => ?_)
                      refine lv_goto (tgt := 67) hx hb dX4_compile_98 (by decide) ?_
                      exact ih_hloop_173 x_193 (by constructor <;> omega) y_190 (by constructor <;> omega) _ _ hP hS (by omega) ls (lv_sub hl [0, 1, 2, 3, 4] rfl)
                    refine lv_icmp_ne (tgt := 95) hx hb dX4_compile_80 (by decide) (fun c_194 => ?_) (fun c_194 => ?_)
                    · skip
                      rw [← Int32.toInt_inj, ti_1] at c_194
                      exact hcut_192 y_175 (by constructor <;> omega) _ _ hP hS ls (lv_sub hl [0, 1, 2, 3, 4] rfl)
                    · skip
                      rw [← Int32.toInt_inj, ti_1] at c_194
                      refine lv_iload_n hx hb dX4_compile_83 rfl (lv_at hl 1 rfl) ?_
                      refine lv_aload_n hx hb dX4_compile_84 rfl (lv_at hl 3 rfl) ?_
                      refine tk_getP (D := (dC, dI)) (ci := 4) (v := .ref a_7) (C := RX4) (T := TX4) (N := 11) hx hb hU inlX4 hown hK hP mo0 hfo_114 rfl 5 (by decide) (hU _ wd_104) (fun _ h9 => h9) rfl dX4_compile_85 ?_
                      refine lv_iload hx hb dX4_compile_88 (lv_at hl 0 rfl) ?_
                      refine tk_ViP (As := [.int y_174]) (rest := [.int y_175]) (n := 1) hx hb hml hown hU hN hZ (s_X5_startsOf_k205 l (dC, dI) cI cL cZ cR cG cH Z kd L f_113 hG a_7 ma_7 ka_7 y_174) wd_512 wd_513 wd_514 wd_102 wd_515 (by decide +kernel) ⟨Nat.le_of_ble_eq_true rfl, Nat.le_of_ble_eq_true rfl⟩ hK hP hD hS ma_7 hfo_116 5 rfl rfl rfl hl.1 rfl (Nat.le_of_ble_eq_true rfl) dX4_compile_90 ⟨Nat.le_of_ble_eq_true rfl, Nat.le_of_ble_eq_true rfl⟩ (fun x_195 f_196 H locs hw hP hD hS => ?_)
                      obtain ⟨rfl, bx_195⟩ := hw
                      refine lv_ior hx hb dX4_compile_93 ?_
                      refine lv_topi (fun x_198 ex_198 => ?_)
                      have bx_198 : ((-2147483648) ≤ x_198.toInt ∧ x_198.toInt ≤ 2147483647) := ⟨i32_lo _, i32_hi _⟩
                      refine lv_istore_n (lv' := [(3, .int x_198), (4, .int y_174), (2, .int y_111), (0, .ref o0), (1, .ref o1)]) hx hb dX4_compile_94 rfl hl (by decide) rfl (fun ls hl => ?_)
                      exact hcut_192 x_198 (by constructor <;> omega) _ _ hP hS ls (lv_sub hl [1, 0, 2, 3, 4] rfl)
              exact hloop_173 4 0 (by decide) 0 (by decide) _ _ hP hS (by (try rw [ti_0]) <;> omega) ls hl
        exact hloop_110 9 0 (by decide) f_64 hG _ _ hP hS hD hfr0 hfr204_1 hfr204_3 hfo_65 hfo_66 hfo_67 hfo_68 (by (try rw [ti_0]) <;> omega) ls hl
      · skip
        rw [Int32.le_iff_toInt_le] at c_85
        refine lv_aload_n hx hb dX4_compile_26 rfl (lv_at hl 1 rfl) ?_
        refine tk_getP (D := (dC, dI)) (ci := 4) (v := .ref a_8) (C := RX4) (T := TX4) (N := 11) hx hb hU inlX4 hown hK hP mo0 hfo_65 rfl 6 (by decide) (hU _ wd_105) (fun _ h9 => h9) rfl dX4_compile_27 ?_
        refine lv_iload_n hx hb dX4_compile_30 rfl (lv_at hl 0 rfl) ?_
        refine lv_aload_n hx hb dX4_compile_31 rfl (lv_at hl 1 rfl) ?_
        refine lv_aload_n hx hb dX4_compile_32 rfl (lv_at hl 2 rfl) ?_
        refine tk_getP (D := (dC, dI)) (ci := 7) (v := .ref a_73) (C := RX7) (T := TX7) (N := 16) hx hb hU inlX7 hown hK hP mo1 hfo_68 rfl 4 (by decide) (hU _ wd_490) (fun _ h9 => h9) rfl dX4_compile_33 ?_
        refine lv_iload_n hx hb dX4_compile_36 rfl (lv_at hl 0 rfl) ?_
        obtain ⟨g_200, hfo_199, hbg_200⟩ := un_569 (hG _ ma_73) ka_73
        refine tk_ildP hx hb hK hP 0 ma_73 hfo_199 rfl (vp_in_iff.mpr (by constructor <;> omega)) dX4_compile_37 ?_
        refine lv_topi (fun x_201 ex_201 => ?_)
        have bx_201 : (0 ≤ x_201.toInt ∧ x_201.toInt ≤ 8) := by rw [ex_201]; exact hbg_200 _
        refine lv_aload_n hx hb dX4_compile_38 rfl (lv_at hl 2 rfl) ?_
        refine tk_getP (D := (dC, dI)) (ci := 7) (v := .ref a_74) (C := RX7) (T := TX7) (N := 16) hx hb hU inlX7 hown hK hP mo1 hfo_68 rfl 5 (by decide) (hU _ wd_491) (fun _ h9 => h9) rfl dX4_compile_39 ?_
        refine lv_iload_n hx hb dX4_compile_42 rfl (lv_at hl 0 rfl) ?_
        obtain ⟨g_203, hfo_202, hbg_203⟩ := un_569 (hG _ ma_74) ka_74
        refine tk_ildP hx hb hK hP 0 ma_74 hfo_202 rfl (vp_in_iff.mpr (by constructor <;> omega)) dX4_compile_43 ?_
        refine lv_topi (fun x_204 ex_204 => ?_)
        have bx_204 : (0 ≤ x_204.toInt ∧ x_204.toInt ≤ 8) := by rw [ex_204]; exact hbg_203 _
        refine tk_ViP (As := [.int x_201, .int x_204]) (rest := [.int y_62, .ref a_8]) (n := 2) hx hb hml hown hU hN hZ (s_X4_roleOf_k204 l (dC, dI) cI cL cZ cR cG cH Z kd L f_64 hG o0 mo0 ko0 x_201 x_204) wd_507 wd_508 wd_509 wd_90 wd_510 (by decide +kernel) ⟨Nat.le_of_ble_eq_true rfl, Nat.le_of_ble_eq_true rfl⟩ hK hP hD hS mo0 hfo_65 4 rfl rfl rfl hl.1 rfl (Nat.le_of_ble_eq_true rfl) dX4_compile_44 ⟨Nat.le_of_ble_eq_true rfl, Nat.le_of_ble_eq_true rfl⟩ (fun x_205 f_206 H locs hw hP hD hS => ?_)
        obtain ⟨rfl, bx_205⟩ := hw
        obtain ⟨g_209, hfo_208, hbg_209⟩ := un_560 (hG _ ma_8) ka_8
        refine tk_istP hx hb hK hP hD hS 0 ma_8 hfo_208 rfl (vp_in_iff.mpr (by constructor <;> omega)) dX4_compile_47 (fun H locs hP hD hS => ?_)
        obtain ⟨f_211, ef_211⟩ : ∃ y : Nat → va_E, y = va_up f_64 a_8 (.inl (cI, 20, .inl (upd g_209 (Int32.toNatClampNeg y_62) x_205))) := ⟨_, rfl⟩
        have hP : va_P (dC, dI) vwCl (va_pl L f_211) H := by rw [ef_211]; exact hP
        have hD : va_D (fun q => q ∈ L) (va_pl L f_211) := by rw [ef_211]; exact hD
        have hG : GI (okc cI cL cZ cR cG cH L kd) kd L f_211 := by rw [ef_211]; exact hG.set a_8 (mk_560 ka_8 ⟨_, rfl, okI_up hbg_209 (by constructor <;> omega) _⟩)
        have hfo_212 : f_211 o0 = .inr (4, [.int v_2, .int v_3, .int v_4, .int v_5, .ref a_6, .ref a_7, .ref a_8, .ref a_9, .int v_10, .int v_11, .int v_12]) := by rw [ef_211, up_ne (kd_ne ka_8 ko0 (by decide))]; exact hfo_65
        have hfo_213 : f_211 a_6 = .inr (5, [.ref a_14, .ref a_15, .ref a_16, .int v_17, .int v_18, .int v_19]) := by rw [ef_211, up_ne (kd_ne ka_8 ka_6 (by decide))]; exact hfo_66
        have hfo_214 : f_211 a_7 = .inr (5, [.ref a_27, .ref a_28, .ref a_29, .int v_30, .int v_31, .int v_32]) := by rw [ef_211, up_ne (kd_ne ka_8 ka_7 (by decide))]; exact hfo_67
        have hfo_215 : f_211 o1 = .inr (7, [.ref a_69, .int v_70, .ref a_71, .ref a_72, .ref a_73, .ref a_74, .int v_75, .ref a_76, .ref a_77, .ref a_78, .ref a_79, .ref a_80, .int v_81, .ref a_82, .ref a_83, .ref a_84]) := by rw [ef_211, up_ne (kd_ne ka_8 ko1 (by decide))]; exact hfo_68
        have hfo_216 : f_211 a_73 = .inl (cI, 20, .inl g_200) := by rw [ef_211, up_ne (kd_ne ka_8 ka_73 (by decide))]; exact hfo_199
        have hfo_217 : f_211 a_74 = .inl (cI, 20, .inl g_203) := by rw [ef_211, up_ne (kd_ne ka_8 ka_74 (by decide))]; exact hfo_202
        have hfr0 : ∀ b, kd b ≠ 204 → kd b ≠ 559 → kd b ≠ 560 → kd b ≠ 561 → f_211 b = f b := fun b q204 q559 q560 q561 => (congrFun ef_211 b).trans ((up_ne (fun e9 => q560 (by rw [e9]; exact ka_8))).trans (hfr0 b q204 q559 q560 q561))
        have hfr204_1 : ∀ b, kd b = 204 → fldI (f_211 b) 1 = fldI (f b) 1 := fun b kb => (congrArg (fun x => fldI x 1) ((congrFun ef_211 b).trans (up_ne (kd_ne ka_8 kb (by decide))))).trans (hfr204_1 b kb)
        have hfr204_3 : ∀ b, kd b = 204 → fldI (f_211 b) 3 = fldI (f b) 3 := fun b kb => (congrArg (fun x => fldI x 3) ((congrFun ef_211 b).trans (up_ne (kd_ne ka_8 kb (by decide))))).trans (hfr204_3 b kb)
        have hfo_218 : f_211 a_8 = .inl (cI, 20, .inl (upd g_209 (Int32.toNatClampNeg y_62) x_205)) := by rw [ef_211]; exact up_self
        obtain ⟨x_219, ex_219⟩ : ∃ y : Int32, y_62 + 1 = y := ⟨_, rfl⟩
        have hx_219 : x_219.toInt = y_62.toInt + 1 := by rw [← ex_219, ad_I (by rw [ti_1]; omega) (by rw [ti_1]; omega), ti_1]
        have bx_219 : (1 ≤ x_219.toInt ∧ x_219.toInt ≤ 20) := by constructor <;> omega
        refine lv_iinc (v := x_219) (lv' := [(2, .int x_219), (0, .ref o0), (1, .ref o1)]) hx hb dX4_compile_48 hl (k := 0) rfl ex_219 (by decide) rfl (fun ls hl => ?_)
        refine lv_goto (tgt := 18) hx hb dX4_compile_51 (by decide) ?_
        exact ih_hloop_61 x_219 (by constructor <;> omega) f_211 hG _ _ hP hS hD hfr0 hfr204_1 hfr204_3 hfo_212 hfo_213 hfo_214 (by omega) ls (lv_sub hl [0, 1, 2] rfl)
  exact hloop_61 21 0 (by decide) f_34 hG _ _ hP hS hD hfr0 hfr204_1 hfr204_3 hfo_37 hfo_38 hfo_39 (by (try rw [ti_0]) <;> omega) ls hl
