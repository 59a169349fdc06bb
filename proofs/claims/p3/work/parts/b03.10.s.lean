set_option maxHeartbeats 8000000 in
set_option maxRecDepth 100000 in
theorem s_X4_copyFrom_k4_k204_t (l : Launch) (D : va_G) (cI cL cZ cR cG cH : ClassId) (Z : zT) (kd : Nat → Nat) (L : List Nat) (f : Nat → va_E) (hG : GI (okc cI cL cZ cR cG cH L kd) kd L f) (o0 : Nat) (mo0 : o0 ∈ L) (ko0 : kd o0 = 4) (o1 : Nat) (mo1 : o1 ∈ L) (ko1 : kd o1 = 204) : mPV l D cI cL cZ cR cG cH Z yX4_copyFrom cX4_copyFrom 2 none 2 61 [.ref o0, .ref o1] L f (fun (f9 : Nat → va_E) => GI (okc cI cL cZ cR cG cH L kd) kd L f9 ∧ (∀ b, kd b ≠ 4 → kd b ≠ 5 → kd b ≠ 500 → kd b ≠ 501 → kd b ≠ 502 → kd b ≠ 503 → f9 b = f b) ∧ (∀ b, kd b = 4 → b ≠ o0 → fldI (f9 b) 1 = fldI (f b) 1) ∧ (∀ w9, fldI (f o1) 1 = some w9 → fldI (f9 o0) 1 = some w9)) := by
  obtain ⟨dC, dI⟩ := D
  refine Met.ofW (cc := cX4_copyFrom) (maxL := 2) (ret := none) (by decide) rfl ?_
  intro p e s m args below meth c s₁ B hml hv
  obtain ⟨rfl, hP, hK, hD0, hN, hZ⟩ := hv
  have hx := B.exec
  have hb := B.bytes
  have hr := B.returns
  have hU : ∀ w ∈ wsU, w.before _ s = true := fun w h => atoms_spec (ws := wU yX4_copyFrom cX4_copyFrom 2 none) B.pre w (List.mem_cons_of_mem _ h)
  have hown : s.vm.findClass RX4 = some m.cls := findClass_of_methodNamed B.named
  have hlocks := B.notSynchronized
  have hD := pl_in hD0
  have hS : va_S (fun q => q ∈ L) s.heap s.heap [] := va_S.rf
  have hl := lv_entry ([.ref o0, .ref o1]) (n := 2) (Nat.le_of_ble_eq_true rfl)
  rw [lg_entry_eq]
  generalize (lg_sl ([.ref o0, .ref o1]) ++ List.replicate (2 - (lg_sl ([.ref o0, .ref o1])).length) Slot.unset).toArray = ls at hl ⊢
  have hl : lv_has ls 2 [(0, .ref o0), (1, .ref o1)] := hl
  have hfr0 : ∀ b, kd b ≠ 4 → kd b ≠ 5 → kd b ≠ 500 → kd b ≠ 501 → kd b ≠ 502 → kd b ≠ 503 → f b = f b := fun _ _ _ _ _ _ _ => rfl
  have hra4_1 : ∀ b, kd b = 4 → b ≠ o0 → fldI (f b) 1 = fldI (f b) 1 := fun _ _ _ => rfl
  refine lv_aload_n hx hb dX4_copyFrom_0 rfl (lv_at hl 0 rfl) ?_
  refine lv_aload_n hx hb dX4_copyFrom_1 rfl (lv_at hl 1 rfl) ?_
  obtain ⟨v_2, v_3, v_4, v_5, a_6, a_7, a_8, a_9, v_10, v_11, v_12, hfo_1, bv_2, bv_3, bv_4, bv_5, ⟨ma_6, ka_6⟩, ⟨ma_7, ka_7⟩, ⟨ma_8, ka_8⟩, ⟨ma_9, ka_9⟩⟩ := un_204 (hG _ mo1) ko1
  have bv_10 : ((-2147483648) ≤ v_10.toInt ∧ v_10.toInt ≤ 2147483647) := ⟨i32_lo _, i32_hi _⟩
  have bv_11 : ((-2147483648) ≤ v_11.toInt ∧ v_11.toInt ≤ 2147483647) := ⟨i32_lo _, i32_hi _⟩
  have bv_12 : ((-2147483648) ≤ v_12.toInt ∧ v_12.toInt ≤ 2147483647) := ⟨i32_lo _, i32_hi _⟩
  refine tk_getP (D := (dC, dI)) (ci := 4) (v := .int v_2) (C := RX4) (T := TX4) (N := 11) hx hb hU inlX4 hown hK hP mo1 hfo_1 rfl 0 (by decide) (hU _ wd_407) (fun _ h9 => h9) rfl dX4_copyFrom_2 ?_
  obtain ⟨v_14, v_15, v_16, v_17, a_18, a_19, a_20, a_21, v_22, v_23, v_24, hfo_13, bv_14, bv_15, bv_16, bv_17, ⟨ma_18, ka_18⟩, ⟨ma_19, ka_19⟩, ⟨ma_20, ka_20⟩, ⟨ma_21, ka_21⟩⟩ := un_4 (hG _ mo0) ko0
  have bv_22 : ((-2147483648) ≤ v_22.toInt ∧ v_22.toInt ≤ 2147483647) := ⟨i32_lo _, i32_hi _⟩
  have bv_23 : ((-2147483648) ≤ v_23.toInt ∧ v_23.toInt ≤ 2147483647) := ⟨i32_lo _, i32_hi _⟩
  have bv_24 : ((-2147483648) ≤ v_24.toInt ∧ v_24.toInt ≤ 2147483647) := ⟨i32_lo _, i32_hi _⟩
  refine tk_putP (D := (dC, dI)) (ci := 4) (v := .int v_2) (ty := .int) (C := RX4) (T := TX4) (N := 11) hx hb hU inlX4 tyX4 tyX4_ok nmX4 hown hK hP hD hS mo0 hfo_13 rfl 0 (by decide) (hU _ wd_407) (fun _ h9 => h9) rfl (by decide +kernel) rfl rfl (Nat.le_of_ble_eq_true rfl) dX4_copyFrom_5 (fun H locs hP hD hS => ?_)
  obtain ⟨f_26, ef_26⟩ : ∃ y : Nat → va_E, y = va_up f o0 (.inr (4, [.int v_2, .int v_15, .int v_16, .int v_17, .ref a_18, .ref a_19, .ref a_20, .ref a_21, .int v_22, .int v_23, .int v_24])) := ⟨_, rfl⟩
  have hP : va_P (dC, dI) vwCl (va_pl L f_26) H := by rw [ef_26]; exact hP
  have hD : va_D (fun q => q ∈ L) (va_pl L f_26) := by rw [ef_26]; exact hD
  have hG : GI (okc cI cL cZ cR cG cH L kd) kd L f_26 := by rw [ef_26]; exact hG.set o0 (mk_4 ko0 ⟨v_2, v_15, v_16, v_17, a_18, a_19, a_20, a_21, v_22, v_23, v_24, rfl, (by constructor <;> omega), (by constructor <;> omega), (by constructor <;> omega), (by constructor <;> omega), ⟨ma_18, ka_18⟩, ⟨ma_19, ka_19⟩, ⟨ma_20, ka_20⟩, ⟨ma_21, ka_21⟩⟩)
  have hfo_27 : f_26 o1 = .inr (4, [.int v_2, .int v_3, .int v_4, .int v_5, .ref a_6, .ref a_7, .ref a_8, .ref a_9, .int v_10, .int v_11, .int v_12]) := by rw [ef_26, up_ne (kd_ne ko0 ko1 (by decide))]; exact hfo_1
  have hfr0 : ∀ b, kd b ≠ 4 → kd b ≠ 5 → kd b ≠ 500 → kd b ≠ 501 → kd b ≠ 502 → kd b ≠ 503 → f_26 b = f b := fun b q4 q5 q500 q501 q502 q503 => (congrFun ef_26 b).trans ((up_ne (fun e9 => q4 (by rw [e9]; exact ko0))).trans (hfr0 b q4 q5 q500 q501 q502 q503))
  have hra4_1 : ∀ b, kd b = 4 → b ≠ o0 → fldI (f_26 b) 1 = fldI (f b) 1 := fun b kb nb => (congrArg (fun x => fldI x 1) ((congrFun ef_26 b).trans (up_ne (nb)))).trans (hra4_1 b kb nb)
  have hfo_28 : f_26 o0 = .inr (4, [.int v_2, .int v_15, .int v_16, .int v_17, .ref a_18, .ref a_19, .ref a_20, .ref a_21, .int v_22, .int v_23, .int v_24]) := by rw [ef_26]; exact up_self
  refine lv_aload_n hx hb dX4_copyFrom_8 rfl (lv_at hl 0 rfl) ?_
  refine lv_aload_n hx hb dX4_copyFrom_9 rfl (lv_at hl 1 rfl) ?_
  refine tk_getP (D := (dC, dI)) (ci := 4) (v := .int v_3) (C := RX4) (T := TX4) (N := 11) hx hb hU inlX4 hown hK hP mo1 hfo_27 rfl 1 (by decide) (hU _ wd_408) (fun _ h9 => h9) rfl dX4_copyFrom_10 ?_
  refine tk_putP (D := (dC, dI)) (ci := 4) (v := .int v_3) (ty := .int) (C := RX4) (T := TX4) (N := 11) hx hb hU inlX4 tyX4 tyX4_ok nmX4 hown hK hP hD hS mo0 hfo_28 rfl 1 (by decide) (hU _ wd_408) (fun _ h9 => h9) rfl (by decide +kernel) rfl rfl (Nat.le_of_ble_eq_true rfl) dX4_copyFrom_13 (fun H locs hP hD hS => ?_)
  obtain ⟨f_30, ef_30⟩ : ∃ y : Nat → va_E, y = va_up f_26 o0 (.inr (4, [.int v_2, .int v_3, .int v_16, .int v_17, .ref a_18, .ref a_19, .ref a_20, .ref a_21, .int v_22, .int v_23, .int v_24])) := ⟨_, rfl⟩
  have hP : va_P (dC, dI) vwCl (va_pl L f_30) H := by rw [ef_30]; exact hP
  have hD : va_D (fun q => q ∈ L) (va_pl L f_30) := by rw [ef_30]; exact hD
  have hG : GI (okc cI cL cZ cR cG cH L kd) kd L f_30 := by rw [ef_30]; exact hG.set o0 (mk_4 ko0 ⟨v_2, v_3, v_16, v_17, a_18, a_19, a_20, a_21, v_22, v_23, v_24, rfl, (by constructor <;> omega), (by constructor <;> omega), (by constructor <;> omega), (by constructor <;> omega), ⟨ma_18, ka_18⟩, ⟨ma_19, ka_19⟩, ⟨ma_20, ka_20⟩, ⟨ma_21, ka_21⟩⟩)
  have hfo_31 : f_30 o1 = .inr (4, [.int v_2, .int v_3, .int v_4, .int v_5, .ref a_6, .ref a_7, .ref a_8, .ref a_9, .int v_10, .int v_11, .int v_12]) := by rw [ef_30, up_ne (kd_ne ko0 ko1 (by decide))]; exact hfo_27
  have hfr0 : ∀ b, kd b ≠ 4 → kd b ≠ 5 → kd b ≠ 500 → kd b ≠ 501 → kd b ≠ 502 → kd b ≠ 503 → f_30 b = f b := fun b q4 q5 q500 q501 q502 q503 => (congrFun ef_30 b).trans ((up_ne (fun e9 => q4 (by rw [e9]; exact ko0))).trans (hfr0 b q4 q5 q500 q501 q502 q503))
  have hra4_1 : ∀ b, kd b = 4 → b ≠ o0 → fldI (f_30 b) 1 = fldI (f b) 1 := fun b kb nb => (congrArg (fun x => fldI x 1) ((congrFun ef_30 b).trans (up_ne (nb)))).trans (hra4_1 b kb nb)
  have hfo_32 : f_30 o0 = .inr (4, [.int v_2, .int v_3, .int v_16, .int v_17, .ref a_18, .ref a_19, .ref a_20, .ref a_21, .int v_22, .int v_23, .int v_24]) := by rw [ef_30]; exact up_self
  refine lv_aload_n hx hb dX4_copyFrom_16 rfl (lv_at hl 0 rfl) ?_
  refine lv_aload_n hx hb dX4_copyFrom_17 rfl (lv_at hl 1 rfl) ?_
  refine tk_getP (D := (dC, dI)) (ci := 4) (v := .int v_4) (C := RX4) (T := TX4) (N := 11) hx hb hU inlX4 hown hK hP mo1 hfo_31 rfl 2 (by decide) (hU _ wd_409) (fun _ h9 => h9) rfl dX4_copyFrom_18 ?_
  refine tk_putP (D := (dC, dI)) (ci := 4) (v := .int v_4) (ty := .int) (C := RX4) (T := TX4) (N := 11) hx hb hU inlX4 tyX4 tyX4_ok nmX4 hown hK hP hD hS mo0 hfo_32 rfl 2 (by decide) (hU _ wd_409) (fun _ h9 => h9) rfl (by decide +kernel) rfl rfl (Nat.le_of_ble_eq_true rfl) dX4_copyFrom_21 (fun H locs hP hD hS => ?_)
  obtain ⟨f_34, ef_34⟩ : ∃ y : Nat → va_E, y = va_up f_30 o0 (.inr (4, [.int v_2, .int v_3, .int v_4, .int v_17, .ref a_18, .ref a_19, .ref a_20, .ref a_21, .int v_22, .int v_23, .int v_24])) := ⟨_, rfl⟩
  have hP : va_P (dC, dI) vwCl (va_pl L f_34) H := by rw [ef_34]; exact hP
  have hD : va_D (fun q => q ∈ L) (va_pl L f_34) := by rw [ef_34]; exact hD
  have hG : GI (okc cI cL cZ cR cG cH L kd) kd L f_34 := by rw [ef_34]; exact hG.set o0 (mk_4 ko0 ⟨v_2, v_3, v_4, v_17, a_18, a_19, a_20, a_21, v_22, v_23, v_24, rfl, (by constructor <;> omega), (by constructor <;> omega), (by constructor <;> omega), (by constructor <;> omega), ⟨ma_18, ka_18⟩, ⟨ma_19, ka_19⟩, ⟨ma_20, ka_20⟩, ⟨ma_21, ka_21⟩⟩)
  have hfo_35 : f_34 o1 = .inr (4, [.int v_2, .int v_3, .int v_4, .int v_5, .ref a_6, .ref a_7, .ref a_8, .ref a_9, .int v_10, .int v_11, .int v_12]) := by rw [ef_34, up_ne (kd_ne ko0 ko1 (by decide))]; exact hfo_31
  have hfr0 : ∀ b, kd b ≠ 4 → kd b ≠ 5 → kd b ≠ 500 → kd b ≠ 501 → kd b ≠ 502 → kd b ≠ 503 → f_34 b = f b := fun b q4 q5 q500 q501 q502 q503 => (congrFun ef_34 b).trans ((up_ne (fun e9 => q4 (by rw [e9]; exact ko0))).trans (hfr0 b q4 q5 q500 q501 q502 q503))
  have hra4_1 : ∀ b, kd b = 4 → b ≠ o0 → fldI (f_34 b) 1 = fldI (f b) 1 := fun b kb nb => (congrArg (fun x => fldI x 1) ((congrFun ef_34 b).trans (up_ne (nb)))).trans (hra4_1 b kb nb)
  have hfo_36 : f_34 o0 = .inr (4, [.int v_2, .int v_3, .int v_4, .int v_17, .ref a_18, .ref a_19, .ref a_20, .ref a_21, .int v_22, .int v_23, .int v_24]) := by rw [ef_34]; exact up_self
  refine lv_aload_n hx hb dX4_copyFrom_24 rfl (lv_at hl 0 rfl) ?_
  refine lv_aload_n hx hb dX4_copyFrom_25 rfl (lv_at hl 1 rfl) ?_
  refine tk_getP (D := (dC, dI)) (ci := 4) (v := .int v_5) (C := RX4) (T := TX4) (N := 11) hx hb hU inlX4 hown hK hP mo1 hfo_35 rfl 3 (by decide) (hU _ wd_410) (fun _ h9 => h9) rfl dX4_copyFrom_26 ?_
  refine tk_putP (D := (dC, dI)) (ci := 4) (v := .int v_5) (ty := .int) (C := RX4) (T := TX4) (N := 11) hx hb hU inlX4 tyX4 tyX4_ok nmX4 hown hK hP hD hS mo0 hfo_36 rfl 3 (by decide) (hU _ wd_410) (fun _ h9 => h9) rfl (by decide +kernel) rfl rfl (Nat.le_of_ble_eq_true rfl) dX4_copyFrom_29 (fun H locs hP hD hS => ?_)
  obtain ⟨f_38, ef_38⟩ : ∃ y : Nat → va_E, y = va_up f_34 o0 (.inr (4, [.int v_2, .int v_3, .int v_4, .int v_5, .ref a_18, .ref a_19, .ref a_20, .ref a_21, .int v_22, .int v_23, .int v_24])) := ⟨_, rfl⟩
  have hP : va_P (dC, dI) vwCl (va_pl L f_38) H := by rw [ef_38]; exact hP
  have hD : va_D (fun q => q ∈ L) (va_pl L f_38) := by rw [ef_38]; exact hD
  have hG : GI (okc cI cL cZ cR cG cH L kd) kd L f_38 := by rw [ef_38]; exact hG.set o0 (mk_4 ko0 ⟨v_2, v_3, v_4, v_5, a_18, a_19, a_20, a_21, v_22, v_23, v_24, rfl, (by constructor <;> omega), (by constructor <;> omega), (by constructor <;> omega), (by constructor <;> omega), ⟨ma_18, ka_18⟩, ⟨ma_19, ka_19⟩, ⟨ma_20, ka_20⟩, ⟨ma_21, ka_21⟩⟩)
  have hfo_39 : f_38 o1 = .inr (4, [.int v_2, .int v_3, .int v_4, .int v_5, .ref a_6, .ref a_7, .ref a_8, .ref a_9, .int v_10, .int v_11, .int v_12]) := by rw [ef_38, up_ne (kd_ne ko0 ko1 (by decide))]; exact hfo_35
  have hfr0 : ∀ b, kd b ≠ 4 → kd b ≠ 5 → kd b ≠ 500 → kd b ≠ 501 → kd b ≠ 502 → kd b ≠ 503 → f_38 b = f b := fun b q4 q5 q500 q501 q502 q503 => (congrFun ef_38 b).trans ((up_ne (fun e9 => q4 (by rw [e9]; exact ko0))).trans (hfr0 b q4 q5 q500 q501 q502 q503))
  have hra4_1 : ∀ b, kd b = 4 → b ≠ o0 → fldI (f_38 b) 1 = fldI (f b) 1 := fun b kb nb => (congrArg (fun x => fldI x 1) ((congrFun ef_38 b).trans (up_ne (nb)))).trans (hra4_1 b kb nb)
  have hfo_40 : f_38 o0 = .inr (4, [.int v_2, .int v_3, .int v_4, .int v_5, .ref a_18, .ref a_19, .ref a_20, .ref a_21, .int v_22, .int v_23, .int v_24]) := by rw [ef_38]; exact up_self
  refine lv_aload_n hx hb dX4_copyFrom_32 rfl (lv_at hl 0 rfl) ?_
  refine tk_getP (D := (dC, dI)) (ci := 4) (v := .ref a_18) (C := RX4) (T := TX4) (N := 11) hx hb hU inlX4 hown hK hP mo0 hfo_40 rfl 4 (by decide) (hU _ wd_103) (fun _ h9 => h9) rfl dX4_copyFrom_33 ?_
  refine lv_aload_n hx hb dX4_copyFrom_36 rfl (lv_at hl 1 rfl) ?_
  refine tk_getP (D := (dC, dI)) (ci := 4) (v := .ref a_6) (C := RX4) (T := TX4) (N := 11) hx hb hU inlX4 hown hK hP mo1 hfo_39 rfl 4 (by decide) (hU _ wd_103) (fun _ h9 => h9) rfl dX4_copyFrom_37 ?_
  obtain ⟨a_42, a_43, a_44, v_45, v_46, v_47, hfo_41, ⟨ma_42, ka_42⟩, ⟨ma_43, ka_43⟩, ⟨ma_44, ka_44⟩⟩ := un_5 (hG _ ma_18) ka_18
  have bv_45 : ((-2147483648) ≤ v_45.toInt ∧ v_45.toInt ≤ 2147483647) := ⟨i32_lo _, i32_hi _⟩
  have bv_46 : ((-2147483648) ≤ v_46.toInt ∧ v_46.toInt ≤ 2147483647) := ⟨i32_lo _, i32_hi _⟩
  have bv_47 : ((-2147483648) ≤ v_47.toInt ∧ v_47.toInt ≤ 2147483647) := ⟨i32_lo _, i32_hi _⟩
  refine tk_VvP (As := [.ref a_6]) (rest := []) (n := 1) hx hb hml hown hU hN hZ (s_X5_copyFrom_k5_k205 l (dC, dI) cI cL cZ cR cG cH Z kd L f_38 hG a_18 ma_18 ka_18 a_6 ma_6 ka_6) wd_540 wd_541 wd_542 wd_102 wd_543 (by decide +kernel) ⟨Nat.le_of_ble_eq_true rfl, Nat.le_of_ble_eq_true rfl⟩ hK hP hD hS ma_18 hfo_41 5 rfl rfl rfl hl.1 rfl (Nat.le_of_ble_eq_true rfl) dX4_copyFrom_40 ⟨Nat.le_of_ble_eq_true rfl, Nat.le_of_ble_eq_true rfl⟩ (fun f_49 H locs hw hP hD hS => ?_)
  obtain ⟨hG, hkc_50⟩ := hw
  have hfo_52 : f_49 o1 = .inr (4, [.int v_2, .int v_3, .int v_4, .int v_5, .ref a_6, .ref a_7, .ref a_8, .ref a_9, .int v_10, .int v_11, .int v_12]) := by rw [hkc_50 o1 (by rw [ko1]; decide) (by rw [ko1]; decide) (by rw [ko1]; decide)]; exact hfo_39
  have hfo_53 : f_49 o0 = .inr (4, [.int v_2, .int v_3, .int v_4, .int v_5, .ref a_18, .ref a_19, .ref a_20, .ref a_21, .int v_22, .int v_23, .int v_24]) := by rw [hkc_50 o0 (by rw [ko0]; decide) (by rw [ko0]; decide) (by rw [ko0]; decide)]; exact hfo_40
  have hfr0 : ∀ b, kd b ≠ 4 → kd b ≠ 5 → kd b ≠ 500 → kd b ≠ 501 → kd b ≠ 502 → kd b ≠ 503 → f_49 b = f b := fun b q4 q5 q500 q501 q502 q503 => (hkc_50 b q5 q500 q501).trans (hfr0 b q4 q5 q500 q501 q502 q503)
  have hra4_1 : ∀ b, kd b = 4 → b ≠ o0 → fldI (f_49 b) 1 = fldI (f b) 1 := fun b kb nb => (congrArg (fun x => fldI x 1) (hkc_50 b (by rw [kb]; decide) (by rw [kb]; decide) (by rw [kb]; decide))).trans (hra4_1 b kb nb)
  refine lv_aload_n hx hb dX4_copyFrom_43 rfl (lv_at hl 0 rfl) ?_
  refine tk_getP (D := (dC, dI)) (ci := 4) (v := .ref a_19) (C := RX4) (T := TX4) (N := 11) hx hb hU inlX4 hown hK hP mo0 hfo_53 rfl 5 (by decide) (hU _ wd_104) (fun _ h9 => h9) rfl dX4_copyFrom_44 ?_
  refine lv_aload_n hx hb dX4_copyFrom_47 rfl (lv_at hl 1 rfl) ?_
  refine tk_getP (D := (dC, dI)) (ci := 4) (v := .ref a_7) (C := RX4) (T := TX4) (N := 11) hx hb hU inlX4 hown hK hP mo1 hfo_52 rfl 5 (by decide) (hU _ wd_104) (fun _ h9 => h9) rfl dX4_copyFrom_48 ?_
  obtain ⟨a_55, a_56, a_57, v_58, v_59, v_60, hfo_54, ⟨ma_55, ka_55⟩, ⟨ma_56, ka_56⟩, ⟨ma_57, ka_57⟩⟩ := un_5 (hG _ ma_19) ka_19
  have bv_58 : ((-2147483648) ≤ v_58.toInt ∧ v_58.toInt ≤ 2147483647) := ⟨i32_lo _, i32_hi _⟩
  have bv_59 : ((-2147483648) ≤ v_59.toInt ∧ v_59.toInt ≤ 2147483647) := ⟨i32_lo _, i32_hi _⟩
  have bv_60 : ((-2147483648) ≤ v_60.toInt ∧ v_60.toInt ≤ 2147483647) := ⟨i32_lo _, i32_hi _⟩
  refine tk_VvP (As := [.ref a_7]) (rest := []) (n := 1) hx hb hml hown hU hN hZ (s_X5_copyFrom_k5_k205 l (dC, dI) cI cL cZ cR cG cH Z kd L f_49 hG a_19 ma_19 ka_19 a_7 ma_7 ka_7) wd_540 wd_541 wd_542 wd_102 wd_543 (by decide +kernel) ⟨Nat.le_of_ble_eq_true rfl, Nat.le_of_ble_eq_true rfl⟩ hK hP hD hS ma_19 hfo_54 5 rfl rfl rfl hl.1 rfl (Nat.le_of_ble_eq_true rfl) dX4_copyFrom_51 ⟨Nat.le_of_ble_eq_true rfl, Nat.le_of_ble_eq_true rfl⟩ (fun f_62 H locs hw hP hD hS => ?_)
  obtain ⟨hG, hkc_63⟩ := hw
  have hfo_65 : f_62 o1 = .inr (4, [.int v_2, .int v_3, .int v_4, .int v_5, .ref a_6, .ref a_7, .ref a_8, .ref a_9, .int v_10, .int v_11, .int v_12]) := by rw [hkc_63 o1 (by rw [ko1]; decide) (by rw [ko1]; decide) (by rw [ko1]; decide)]; exact hfo_52
  have hfo_66 : f_62 o0 = .inr (4, [.int v_2, .int v_3, .int v_4, .int v_5, .ref a_18, .ref a_19, .ref a_20, .ref a_21, .int v_22, .int v_23, .int v_24]) := by rw [hkc_63 o0 (by rw [ko0]; decide) (by rw [ko0]; decide) (by rw [ko0]; decide)]; exact hfo_53
  have hfr0 : ∀ b, kd b ≠ 4 → kd b ≠ 5 → kd b ≠ 500 → kd b ≠ 501 → kd b ≠ 502 → kd b ≠ 503 → f_62 b = f b := fun b q4 q5 q500 q501 q502 q503 => (hkc_63 b q5 q500 q501).trans (hfr0 b q4 q5 q500 q501 q502 q503)
  have hra4_1 : ∀ b, kd b = 4 → b ≠ o0 → fldI (f_62 b) 1 = fldI (f b) 1 := fun b kb nb => (congrArg (fun x => fldI x 1) (hkc_63 b (by rw [kb]; decide) (by rw [kb]; decide) (by rw [kb]; decide))).trans (hra4_1 b kb nb)
  refine lv_aload_n hx hb dX4_copyFrom_54 rfl (lv_at hl 1 rfl) ?_
  refine tk_getP (D := (dC, dI)) (ci := 4) (v := .ref a_8) (C := RX4) (T := TX4) (N := 11) hx hb hU inlX4 hown hK hP mo1 hfo_65 rfl 6 (by decide) (hU _ wd_105) (fun _ h9 => h9) rfl dX4_copyFrom_55 ?_
  refine lv_iconst (v := 0) hx hb dX4_copyFrom_58 (by decide) ?_
  refine lv_aload_n hx hb dX4_copyFrom_59 rfl (lv_at hl 0 rfl) ?_
  refine tk_getP (D := (dC, dI)) (ci := 4) (v := .ref a_20) (C := RX4) (T := TX4) (N := 11) hx hb hU inlX4 hown hK hP mo0 hfo_66 rfl 6 (by decide) (hU _ wd_105) (fun _ h9 => h9) rfl dX4_copyFrom_60 ?_
  refine lv_iconst (v := 0) hx hb dX4_copyFrom_63 (by decide) ?_
  refine lv_aload_n hx hb dX4_copyFrom_64 rfl (lv_at hl 0 rfl) ?_
  refine tk_getP (D := (dC, dI)) (ci := 4) (v := .ref a_20) (C := RX4) (T := TX4) (N := 11) hx hb hU inlX4 hown hK hP mo0 hfo_66 rfl 6 (by decide) (hU _ wd_105) (fun _ h9 => h9) rfl dX4_copyFrom_65 ?_
  obtain ⟨g_68, hfo_67, hbg_68⟩ := un_502 (hG _ ma_20) ka_20
  refine tk_alenP (v := 20) hx hb hK hP 0 ma_20 hfo_67 rfl rfl dX4_copyFrom_68 ?_
  obtain ⟨g_70, hfo_69, hbg_70⟩ := un_560 (hG _ ma_8) ka_8
  refine tk_copyP hx hb (by rw [hml]; exact hl.1.symm) hown (hU _ wd_539) (hU _ wd_253) (hU _ wd_254) (hU _ wd_255) hK hP hD hS 0 ma_8 ma_20 hfo_69 hfo_67 rfl (by decide) (by decide) (by decide) (by decide) (by decide) (Nat.le_of_ble_eq_true rfl) (Nat.le_of_ble_eq_true rfl) dX4_copyFrom_69 (fun H locs hP hD hS => ?_)
  obtain ⟨f_72, ef_72⟩ : ∃ y : Nat → va_E, y = va_up f_62 a_20 (.inl (cI, 20, .inl (va_cpy g_70 g_68 (Int32.toNatClampNeg 0) (Int32.toNatClampNeg 0) (Int32.toNatClampNeg 20)))) := ⟨_, rfl⟩
  have hP : va_P (dC, dI) vwCl (va_pl L f_72) H := by rw [ef_72]; exact hP
  have hD : va_D (fun q => q ∈ L) (va_pl L f_72) := by rw [ef_72]; exact hD
  have hG : GI (okc cI cL cZ cR cG cH L kd) kd L f_72 := by rw [ef_72]; exact hG.set a_20 (mk_502 ka_20 ⟨_, rfl, okI_cpy (fun j => by have := hbg_70 j; constructor <;> omega) hbg_68 _ _ _⟩)
  have hfo_73 : f_72 o1 = .inr (4, [.int v_2, .int v_3, .int v_4, .int v_5, .ref a_6, .ref a_7, .ref a_8, .ref a_9, .int v_10, .int v_11, .int v_12]) := by rw [ef_72, up_ne (kd_ne ka_20 ko1 (by decide))]; exact hfo_65
  have hfo_74 : f_72 o0 = .inr (4, [.int v_2, .int v_3, .int v_4, .int v_5, .ref a_18, .ref a_19, .ref a_20, .ref a_21, .int v_22, .int v_23, .int v_24]) := by rw [ef_72, up_ne (kd_ne ka_20 ko0 (by decide))]; exact hfo_66
  have hfo_75 : f_72 a_8 = .inl (cI, 20, .inl g_70) := by rw [ef_72, up_ne (kd_ne ka_20 ka_8 (by decide))]; exact hfo_69
  have hfr0 : ∀ b, kd b ≠ 4 → kd b ≠ 5 → kd b ≠ 500 → kd b ≠ 501 → kd b ≠ 502 → kd b ≠ 503 → f_72 b = f b := fun b q4 q5 q500 q501 q502 q503 => (congrFun ef_72 b).trans ((up_ne (fun e9 => q502 (by rw [e9]; exact ka_20))).trans (hfr0 b q4 q5 q500 q501 q502 q503))
  have hra4_1 : ∀ b, kd b = 4 → b ≠ o0 → fldI (f_72 b) 1 = fldI (f b) 1 := fun b kb nb => (congrArg (fun x => fldI x 1) ((congrFun ef_72 b).trans (up_ne (kd_ne ka_20 kb (by decide))))).trans (hra4_1 b kb nb)
  have hfo_76 : f_72 a_20 = .inl (cI, 20, .inl (va_cpy g_70 g_68 (Int32.toNatClampNeg 0) (Int32.toNatClampNeg 0) (Int32.toNatClampNeg 20))) := by rw [ef_72]; exact up_self
  refine lv_aload_n hx hb dX4_copyFrom_72 rfl (lv_at hl 1 rfl) ?_
  refine tk_getP (D := (dC, dI)) (ci := 4) (v := .ref a_9) (C := RX4) (T := TX4) (N := 11) hx hb hU inlX4 hown hK hP mo1 hfo_73 rfl 7 (by decide) (hU _ wd_106) (fun _ h9 => h9) rfl dX4_copyFrom_73 ?_
  refine lv_iconst (v := 0) hx hb dX4_copyFrom_76 (by decide) ?_
  refine lv_aload_n hx hb dX4_copyFrom_77 rfl (lv_at hl 0 rfl) ?_
  refine tk_getP (D := (dC, dI)) (ci := 4) (v := .ref a_21) (C := RX4) (T := TX4) (N := 11) hx hb hU inlX4 hown hK hP mo0 hfo_74 rfl 7 (by decide) (hU _ wd_106) (fun _ h9 => h9) rfl dX4_copyFrom_78 ?_
  refine lv_iconst (v := 0) hx hb dX4_copyFrom_81 (by decide) ?_
  refine lv_aload_n hx hb dX4_copyFrom_82 rfl (lv_at hl 0 rfl) ?_
  refine tk_getP (D := (dC, dI)) (ci := 4) (v := .ref a_21) (C := RX4) (T := TX4) (N := 11) hx hb hU inlX4 hown hK hP mo0 hfo_74 rfl 7 (by decide) (hU _ wd_106) (fun _ h9 => h9) rfl dX4_copyFrom_83 ?_
  obtain ⟨g_78, hfo_77, hbg_78⟩ := un_503 (hG _ ma_21) ka_21
  refine tk_alenP (v := 8) hx hb hK hP 0 ma_21 hfo_77 rfl rfl dX4_copyFrom_86 ?_
  obtain ⟨g_80, hfo_79, hbg_80⟩ := un_561 (hG _ ma_9) ka_9
  refine tk_copyP hx hb (by rw [hml]; exact hl.1.symm) hown (hU _ wd_539) (hU _ wd_253) (hU _ wd_254) (hU _ wd_255) hK hP hD hS 0 ma_9 ma_21 hfo_79 hfo_77 rfl (by decide) (by decide) (by decide) (by decide) (by decide) (Nat.le_of_ble_eq_true rfl) (Nat.le_of_ble_eq_true rfl) dX4_copyFrom_87 (fun H locs hP hD hS => ?_)
  obtain ⟨f_82, ef_82⟩ : ∃ y : Nat → va_E, y = va_up f_72 a_21 (.inl (cI, 8, .inl (va_cpy g_80 g_78 (Int32.toNatClampNeg 0) (Int32.toNatClampNeg 0) (Int32.toNatClampNeg 8)))) := ⟨_, rfl⟩
  have hP : va_P (dC, dI) vwCl (va_pl L f_82) H := by rw [ef_82]; exact hP
  have hD : va_D (fun q => q ∈ L) (va_pl L f_82) := by rw [ef_82]; exact hD
  have hG : GI (okc cI cL cZ cR cG cH L kd) kd L f_82 := by rw [ef_82]; exact hG.set a_21 (mk_503 ka_21 ⟨_, rfl, okI_cpy (fun j => by have := hbg_80 j; constructor <;> omega) hbg_78 _ _ _⟩)
  have hfo_83 : f_82 o1 = .inr (4, [.int v_2, .int v_3, .int v_4, .int v_5, .ref a_6, .ref a_7, .ref a_8, .ref a_9, .int v_10, .int v_11, .int v_12]) := by rw [ef_82, up_ne (kd_ne ka_21 ko1 (by decide))]; exact hfo_73
  have hfo_84 : f_82 o0 = .inr (4, [.int v_2, .int v_3, .int v_4, .int v_5, .ref a_18, .ref a_19, .ref a_20, .ref a_21, .int v_22, .int v_23, .int v_24]) := by rw [ef_82, up_ne (kd_ne ka_21 ko0 (by decide))]; exact hfo_74
  have hfo_85 : f_82 a_8 = .inl (cI, 20, .inl g_70) := by rw [ef_82, up_ne (kd_ne ka_21 ka_8 (by decide))]; exact hfo_75
  have hfo_86 : f_82 a_9 = .inl (cI, 8, .inl g_80) := by rw [ef_82, up_ne (kd_ne ka_21 ka_9 (by decide))]; exact hfo_79
  have hfr0 : ∀ b, kd b ≠ 4 → kd b ≠ 5 → kd b ≠ 500 → kd b ≠ 501 → kd b ≠ 502 → kd b ≠ 503 → f_82 b = f b := fun b q4 q5 q500 q501 q502 q503 => (congrFun ef_82 b).trans ((up_ne (fun e9 => q503 (by rw [e9]; exact ka_21))).trans (hfr0 b q4 q5 q500 q501 q502 q503))
  have hra4_1 : ∀ b, kd b = 4 → b ≠ o0 → fldI (f_82 b) 1 = fldI (f b) 1 := fun b kb nb => (congrArg (fun x => fldI x 1) ((congrFun ef_82 b).trans (up_ne (kd_ne ka_21 kb (by decide))))).trans (hra4_1 b kb nb)
  have hfo_87 : f_82 a_21 = .inl (cI, 8, .inl (va_cpy g_80 g_78 (Int32.toNatClampNeg 0) (Int32.toNatClampNeg 0) (Int32.toNatClampNeg 8))) := by rw [ef_82]; exact up_self
  refine lv_aload_n hx hb dX4_copyFrom_90 rfl (lv_at hl 0 rfl) ?_
  refine lv_aload_n hx hb dX4_copyFrom_91 rfl (lv_at hl 1 rfl) ?_
  refine tk_getP (D := (dC, dI)) (ci := 4) (v := .int v_10) (C := RX4) (T := TX4) (N := 11) hx hb hU inlX4 hown hK hP mo1 hfo_83 rfl 8 (by decide) (hU _ wd_493) (fun _ h9 => h9) rfl dX4_copyFrom_92 ?_
  refine tk_putP (D := (dC, dI)) (ci := 4) (v := .int v_10) (ty := .int) (C := RX4) (T := TX4) (N := 11) hx hb hU inlX4 tyX4 tyX4_ok nmX4 hown hK hP hD hS mo0 hfo_84 rfl 8 (by decide) (hU _ wd_493) (fun _ h9 => h9) rfl (by decide +kernel) rfl rfl (Nat.le_of_ble_eq_true rfl) dX4_copyFrom_95 (fun H locs hP hD hS => ?_)
  obtain ⟨f_89, ef_89⟩ : ∃ y : Nat → va_E, y = va_up f_82 o0 (.inr (4, [.int v_2, .int v_3, .int v_4, .int v_5, .ref a_18, .ref a_19, .ref a_20, .ref a_21, .int v_10, .int v_23, .int v_24])) := ⟨_, rfl⟩
  have hP : va_P (dC, dI) vwCl (va_pl L f_89) H := by rw [ef_89]; exact hP
  have hD : va_D (fun q => q ∈ L) (va_pl L f_89) := by rw [ef_89]; exact hD
  have hG : GI (okc cI cL cZ cR cG cH L kd) kd L f_89 := by rw [ef_89]; exact hG.set o0 (mk_4 ko0 ⟨v_2, v_3, v_4, v_5, a_18, a_19, a_20, a_21, v_10, v_23, v_24, rfl, (by constructor <;> omega), (by constructor <;> omega), (by constructor <;> omega), (by constructor <;> omega), ⟨ma_18, ka_18⟩, ⟨ma_19, ka_19⟩, ⟨ma_20, ka_20⟩, ⟨ma_21, ka_21⟩⟩)
  have hfo_90 : f_89 o1 = .inr (4, [.int v_2, .int v_3, .int v_4, .int v_5, .ref a_6, .ref a_7, .ref a_8, .ref a_9, .int v_10, .int v_11, .int v_12]) := by rw [ef_89, up_ne (kd_ne ko0 ko1 (by decide))]; exact hfo_83
  have hfo_91 : f_89 a_8 = .inl (cI, 20, .inl g_70) := by rw [ef_89, up_ne (kd_ne ko0 ka_8 (by decide))]; exact hfo_85
  have hfo_92 : f_89 a_9 = .inl (cI, 8, .inl g_80) := by rw [ef_89, up_ne (kd_ne ko0 ka_9 (by decide))]; exact hfo_86
  have hfr0 : ∀ b, kd b ≠ 4 → kd b ≠ 5 → kd b ≠ 500 → kd b ≠ 501 → kd b ≠ 502 → kd b ≠ 503 → f_89 b = f b := fun b q4 q5 q500 q501 q502 q503 => (congrFun ef_89 b).trans ((up_ne (fun e9 => q4 (by rw [e9]; exact ko0))).trans (hfr0 b q4 q5 q500 q501 q502 q503))
  have hra4_1 : ∀ b, kd b = 4 → b ≠ o0 → fldI (f_89 b) 1 = fldI (f b) 1 := fun b kb nb => (congrArg (fun x => fldI x 1) ((congrFun ef_89 b).trans (up_ne (nb)))).trans (hra4_1 b kb nb)
  have hfo_93 : f_89 o0 = .inr (4, [.int v_2, .int v_3, .int v_4, .int v_5, .ref a_18, .ref a_19, .ref a_20, .ref a_21, .int v_10, .int v_23, .int v_24]) := by rw [ef_89]; exact up_self
  refine lv_aload_n hx hb dX4_copyFrom_98 rfl (lv_at hl 0 rfl) ?_
  refine lv_aload_n hx hb dX4_copyFrom_99 rfl (lv_at hl 1 rfl) ?_
  refine tk_getP (D := (dC, dI)) (ci := 4) (v := .int v_11) (C := RX4) (T := TX4) (N := 11) hx hb hU inlX4 hown hK hP mo1 hfo_90 rfl 9 (by decide) (hU _ wd_494) (fun _ h9 => h9) rfl dX4_copyFrom_100 ?_
  refine tk_putP (D := (dC, dI)) (ci := 4) (v := .int v_11) (ty := .int) (C := RX4) (T := TX4) (N := 11) hx hb hU inlX4 tyX4 tyX4_ok nmX4 hown hK hP hD hS mo0 hfo_93 rfl 9 (by decide) (hU _ wd_494) (fun _ h9 => h9) rfl (by decide +kernel) rfl rfl (Nat.le_of_ble_eq_true rfl) dX4_copyFrom_103 (fun H locs hP hD hS => ?_)
  obtain ⟨f_95, ef_95⟩ : ∃ y : Nat → va_E, y = va_up f_89 o0 (.inr (4, [.int v_2, .int v_3, .int v_4, .int v_5, .ref a_18, .ref a_19, .ref a_20, .ref a_21, .int v_10, .int v_11, .int v_24])) := ⟨_, rfl⟩
  have hP : va_P (dC, dI) vwCl (va_pl L f_95) H := by rw [ef_95]; exact hP
  have hD : va_D (fun q => q ∈ L) (va_pl L f_95) := by rw [ef_95]; exact hD
  have hG : GI (okc cI cL cZ cR cG cH L kd) kd L f_95 := by rw [ef_95]; exact hG.set o0 (mk_4 ko0 ⟨v_2, v_3, v_4, v_5, a_18, a_19, a_20, a_21, v_10, v_11, v_24, rfl, (by constructor <;> omega), (by constructor <;> omega), (by constructor <;> omega), (by constructor <;> omega), ⟨ma_18, ka_18⟩, ⟨ma_19, ka_19⟩, ⟨ma_20, ka_20⟩, ⟨ma_21, ka_21⟩⟩)
  have hfo_96 : f_95 o1 = .inr (4, [.int v_2, .int v_3, .int v_4, .int v_5, .ref a_6, .ref a_7, .ref a_8, .ref a_9, .int v_10, .int v_11, .int v_12]) := by rw [ef_95, up_ne (kd_ne ko0 ko1 (by decide))]; exact hfo_90
  have hfo_97 : f_95 a_8 = .inl (cI, 20, .inl g_70) := by rw [ef_95, up_ne (kd_ne ko0 ka_8 (by decide))]; exact hfo_91
  have hfo_98 : f_95 a_9 = .inl (cI, 8, .inl g_80) := by rw [ef_95, up_ne (kd_ne ko0 ka_9 (by decide))]; exact hfo_92
  have hfr0 : ∀ b, kd b ≠ 4 → kd b ≠ 5 → kd b ≠ 500 → kd b ≠ 501 → kd b ≠ 502 → kd b ≠ 503 → f_95 b = f b := fun b q4 q5 q500 q501 q502 q503 => (congrFun ef_95 b).trans ((up_ne (fun e9 => q4 (by rw [e9]; exact ko0))).trans (hfr0 b q4 q5 q500 q501 q502 q503))
  have hra4_1 : ∀ b, kd b = 4 → b ≠ o0 → fldI (f_95 b) 1 = fldI (f b) 1 := fun b kb nb => (congrArg (fun x => fldI x 1) ((congrFun ef_95 b).trans (up_ne (nb)))).trans (hra4_1 b kb nb)
  have hfo_99 : f_95 o0 = .inr (4, [.int v_2, .int v_3, .int v_4, .int v_5, .ref a_18, .ref a_19, .ref a_20, .ref a_21, .int v_10, .int v_11, .int v_24]) := by rw [ef_95]; exact up_self
  refine lv_aload_n hx hb dX4_copyFrom_106 rfl (lv_at hl 0 rfl) ?_
  refine lv_aload_n hx hb dX4_copyFrom_107 rfl (lv_at hl 1 rfl) ?_
  refine tk_getP (D := (dC, dI)) (ci := 4) (v := .int v_12) (C := RX4) (T := TX4) (N := 11) hx hb hU inlX4 hown hK hP mo1 hfo_96 rfl 10 (by decide) (hU _ wd_495) (fun _ h9 => h9) rfl dX4_copyFrom_108 ?_
  refine tk_putP (D := (dC, dI)) (ci := 4) (v := .int v_12) (ty := .int) (C := RX4) (T := TX4) (N := 11) hx hb hU inlX4 tyX4 tyX4_ok nmX4 hown hK hP hD hS mo0 hfo_99 rfl 10 (by decide) (hU _ wd_495) (fun _ h9 => h9) rfl (by decide +kernel) rfl rfl (Nat.le_of_ble_eq_true rfl) dX4_copyFrom_111 (fun H locs hP hD hS => ?_)
  obtain ⟨f_101, ef_101⟩ : ∃ y : Nat → va_E, y = va_up f_95 o0 (.inr (4, [.int v_2, .int v_3, .int v_4, .int v_5, .ref a_18, .ref a_19, .ref a_20, .ref a_21, .int v_10, .int v_11, .int v_12])) := ⟨_, rfl⟩
  have hP : va_P (dC, dI) vwCl (va_pl L f_101) H := by rw [ef_101]; exact hP
  have hD : va_D (fun q => q ∈ L) (va_pl L f_101) := by rw [ef_101]; exact hD
  have hG : GI (okc cI cL cZ cR cG cH L kd) kd L f_101 := by rw [ef_101]; exact hG.set o0 (mk_4 ko0 ⟨v_2, v_3, v_4, v_5, a_18, a_19, a_20, a_21, v_10, v_11, v_12, rfl, (by constructor <;> omega), (by constructor <;> omega), (by constructor <;> omega), (by constructor <;> omega), ⟨ma_18, ka_18⟩, ⟨ma_19, ka_19⟩, ⟨ma_20, ka_20⟩, ⟨ma_21, ka_21⟩⟩)
  have hfo_102 : f_101 o1 = .inr (4, [.int v_2, .int v_3, .int v_4, .int v_5, .ref a_6, .ref a_7, .ref a_8, .ref a_9, .int v_10, .int v_11, .int v_12]) := by rw [ef_101, up_ne (kd_ne ko0 ko1 (by decide))]; exact hfo_96
  have hfo_103 : f_101 a_8 = .inl (cI, 20, .inl g_70) := by rw [ef_101, up_ne (kd_ne ko0 ka_8 (by decide))]; exact hfo_97
  have hfo_104 : f_101 a_9 = .inl (cI, 8, .inl g_80) := by rw [ef_101, up_ne (kd_ne ko0 ka_9 (by decide))]; exact hfo_98
  have hfr0 : ∀ b, kd b ≠ 4 → kd b ≠ 5 → kd b ≠ 500 → kd b ≠ 501 → kd b ≠ 502 → kd b ≠ 503 → f_101 b = f b := fun b q4 q5 q500 q501 q502 q503 => (congrFun ef_101 b).trans ((up_ne (fun e9 => q4 (by rw [e9]; exact ko0))).trans (hfr0 b q4 q5 q500 q501 q502 q503))
  have hra4_1 : ∀ b, kd b = 4 → b ≠ o0 → fldI (f_101 b) 1 = fldI (f b) 1 := fun b kb nb => (congrArg (fun x => fldI x 1) ((congrFun ef_101 b).trans (up_ne (nb)))).trans (hra4_1 b kb nb)
  have hfo_105 : f_101 o0 = .inr (4, [.int v_2, .int v_3, .int v_4, .int v_5, .ref a_18, .ref a_19, .ref a_20, .ref a_21, .int v_10, .int v_11, .int v_12]) := by rw [ef_101]; exact up_self
  exact W.vret hx hb hr (fun t ht hW => ⟨⟨f_101, rfl, ⟨hG, hfr0, hra4_1, (fun w9 h9 => by rw [hfo_1] at h9; obtain rfl := Option.some.inj h9; rw [hfo_105]; rfl)⟩, by rw [ht]; exact hP, va_K.moved hW.alike hK, pl_in hD⟩, hS.F ht⟩) hS.2.2 dX4_copyFrom_114
set_option maxHeartbeats 8000000 in
set_option maxRecDepth 100000 in
theorem s_X4_copyFrom_k104_k4_t (l : Launch) (D : va_G) (cI cL cZ cR cG cH : ClassId) (Z : zT) (kd : Nat → Nat) (L : List Nat) (f : Nat → va_E) (hG : GI (okc cI cL cZ cR cG cH L kd) kd L f) (o0 : Nat) (mo0 : o0 ∈ L) (ko0 : kd o0 = 104) (o1 : Nat) (mo1 : o1 ∈ L) (ko1 : kd o1 = 4) : mPV l D cI cL cZ cR cG cH Z yX4_copyFrom cX4_copyFrom 2 none 2 61 [.ref o0, .ref o1] L f (fun (f9 : Nat → va_E) => GI (okc cI cL cZ cR cG cH L kd) kd L f9 ∧ (∀ b, kd b ≠ 104 → kd b ≠ 105 → kd b ≠ 541 → kd b ≠ 542 → kd b ≠ 543 → kd b ≠ 544 → f9 b = f b) ∧ (∀ b, kd b = 104 → b ≠ o0 → fldI (f9 b) 1 = fldI (f b) 1) ∧ (∀ w9, fldI (f o1) 1 = some w9 → fldI (f9 o0) 1 = some w9)) := by
  obtain ⟨dC, dI⟩ := D
  refine Met.ofW (cc := cX4_copyFrom) (maxL := 2) (ret := none) (by decide) rfl ?_
  intro p e s m args below meth c s₁ B hml hv
  obtain ⟨rfl, hP, hK, hD0, hN, hZ⟩ := hv
  have hx := B.exec
  have hb := B.bytes
  have hr := B.returns
  have hU : ∀ w ∈ wsU, w.before _ s = true := fun w h => atoms_spec (ws := wU yX4_copyFrom cX4_copyFrom 2 none) B.pre w (List.mem_cons_of_mem _ h)
  have hown : s.vm.findClass RX4 = some m.cls := findClass_of_methodNamed B.named
  have hlocks := B.notSynchronized
  have hD := pl_in hD0
  have hS : va_S (fun q => q ∈ L) s.heap s.heap [] := va_S.rf
  have hl := lv_entry ([.ref o0, .ref o1]) (n := 2) (Nat.le_of_ble_eq_true rfl)
  rw [lg_entry_eq]
  generalize (lg_sl ([.ref o0, .ref o1]) ++ List.replicate (2 - (lg_sl ([.ref o0, .ref o1])).length) Slot.unset).toArray = ls at hl ⊢
  have hl : lv_has ls 2 [(0, .ref o0), (1, .ref o1)] := hl
  have hfr0 : ∀ b, kd b ≠ 104 → kd b ≠ 105 → kd b ≠ 541 → kd b ≠ 542 → kd b ≠ 543 → kd b ≠ 544 → f b = f b := fun _ _ _ _ _ _ _ => rfl
  have hra104_1 : ∀ b, kd b = 104 → b ≠ o0 → fldI (f b) 1 = fldI (f b) 1 := fun _ _ _ => rfl
  refine lv_aload_n hx hb dX4_copyFrom_0 rfl (lv_at hl 0 rfl) ?_
  refine lv_aload_n hx hb dX4_copyFrom_1 rfl (lv_at hl 1 rfl) ?_
  obtain ⟨v_2, v_3, v_4, v_5, a_6, a_7, a_8, a_9, v_10, v_11, v_12, hfo_1, bv_2, bv_3, bv_4, bv_5, ⟨ma_6, ka_6⟩, ⟨ma_7, ka_7⟩, ⟨ma_8, ka_8⟩, ⟨ma_9, ka_9⟩⟩ := un_4 (hG _ mo1) ko1
  have bv_10 : ((-2147483648) ≤ v_10.toInt ∧ v_10.toInt ≤ 2147483647) := ⟨i32_lo _, i32_hi _⟩
  have bv_11 : ((-2147483648) ≤ v_11.toInt ∧ v_11.toInt ≤ 2147483647) := ⟨i32_lo _, i32_hi _⟩
  have bv_12 : ((-2147483648) ≤ v_12.toInt ∧ v_12.toInt ≤ 2147483647) := ⟨i32_lo _, i32_hi _⟩
  refine tk_getP (D := (dC, dI)) (ci := 4) (v := .int v_2) (C := RX4) (T := TX4) (N := 11) hx hb hU inlX4 hown hK hP mo1 hfo_1 rfl 0 (by decide) (hU _ wd_407) (fun _ h9 => h9) rfl dX4_copyFrom_2 ?_
  obtain ⟨v_14, v_15, v_16, v_17, a_18, a_19, a_20, a_21, v_22, v_23, v_24, hfo_13, bv_14, bv_15, bv_16, bv_17, ⟨ma_18, ka_18⟩, ⟨ma_19, ka_19⟩, ⟨ma_20, ka_20⟩, ⟨ma_21, ka_21⟩⟩ := un_104 (hG _ mo0) ko0
  have bv_22 : ((-2147483648) ≤ v_22.toInt ∧ v_22.toInt ≤ 2147483647) := ⟨i32_lo _, i32_hi _⟩
  have bv_23 : ((-2147483648) ≤ v_23.toInt ∧ v_23.toInt ≤ 2147483647) := ⟨i32_lo _, i32_hi _⟩
  have bv_24 : ((-2147483648) ≤ v_24.toInt ∧ v_24.toInt ≤ 2147483647) := ⟨i32_lo _, i32_hi _⟩
  refine tk_putP (D := (dC, dI)) (ci := 4) (v := .int v_2) (ty := .int) (C := RX4) (T := TX4) (N := 11) hx hb hU inlX4 tyX4 tyX4_ok nmX4 hown hK hP hD hS mo0 hfo_13 rfl 0 (by decide) (hU _ wd_407) (fun _ h9 => h9) rfl (by decide +kernel) rfl rfl (Nat.le_of_ble_eq_true rfl) dX4_copyFrom_5 (fun H locs hP hD hS => ?_)
  obtain ⟨f_26, ef_26⟩ : ∃ y : Nat → va_E, y = va_up f o0 (.inr (4, [.int v_2, .int v_15, .int v_16, .int v_17, .ref a_18, .ref a_19, .ref a_20, .ref a_21, .int v_22, .int v_23, .int v_24])) := ⟨_, rfl⟩
  have hP : va_P (dC, dI) vwCl (va_pl L f_26) H := by rw [ef_26]; exact hP
  have hD : va_D (fun q => q ∈ L) (va_pl L f_26) := by rw [ef_26]; exact hD
  have hG : GI (okc cI cL cZ cR cG cH L kd) kd L f_26 := by rw [ef_26]; exact hG.set o0 (mk_104 ko0 ⟨v_2, v_15, v_16, v_17, a_18, a_19, a_20, a_21, v_22, v_23, v_24, rfl, (by constructor <;> omega), (by constructor <;> omega), (by constructor <;> omega), (by constructor <;> omega), ⟨ma_18, ka_18⟩, ⟨ma_19, ka_19⟩, ⟨ma_20, ka_20⟩, ⟨ma_21, ka_21⟩⟩)
  have hfo_27 : f_26 o1 = .inr (4, [.int v_2, .int v_3, .int v_4, .int v_5, .ref a_6, .ref a_7, .ref a_8, .ref a_9, .int v_10, .int v_11, .int v_12]) := by rw [ef_26, up_ne (kd_ne ko0 ko1 (by decide))]; exact hfo_1
  have hfr0 : ∀ b, kd b ≠ 104 → kd b ≠ 105 → kd b ≠ 541 → kd b ≠ 542 → kd b ≠ 543 → kd b ≠ 544 → f_26 b = f b := fun b q104 q105 q541 q542 q543 q544 => (congrFun ef_26 b).trans ((up_ne (fun e9 => q104 (by rw [e9]; exact ko0))).trans (hfr0 b q104 q105 q541 q542 q543 q544))
  have hra104_1 : ∀ b, kd b = 104 → b ≠ o0 → fldI (f_26 b) 1 = fldI (f b) 1 := fun b kb nb => (congrArg (fun x => fldI x 1) ((congrFun ef_26 b).trans (up_ne (nb)))).trans (hra104_1 b kb nb)
  have hfo_28 : f_26 o0 = .inr (4, [.int v_2, .int v_15, .int v_16, .int v_17, .ref a_18, .ref a_19, .ref a_20, .ref a_21, .int v_22, .int v_23, .int v_24]) := by rw [ef_26]; exact up_self
  refine lv_aload_n hx hb dX4_copyFrom_8 rfl (lv_at hl 0 rfl) ?_
  refine lv_aload_n hx hb dX4_copyFrom_9 rfl (lv_at hl 1 rfl) ?_
  refine tk_getP (D := (dC, dI)) (ci := 4) (v := .int v_3) (C := RX4) (T := TX4) (N := 11) hx hb hU inlX4 hown hK hP mo1 hfo_27 rfl 1 (by decide) (hU _ wd_408) (fun _ h9 => h9) rfl dX4_copyFrom_10 ?_
  refine tk_putP (D := (dC, dI)) (ci := 4) (v := .int v_3) (ty := .int) (C := RX4) (T := TX4) (N := 11) hx hb hU inlX4 tyX4 tyX4_ok nmX4 hown hK hP hD hS mo0 hfo_28 rfl 1 (by decide) (hU _ wd_408) (fun _ h9 => h9) rfl (by decide +kernel) rfl rfl (Nat.le_of_ble_eq_true rfl) dX4_copyFrom_13 (fun H locs hP hD hS => ?_)
  obtain ⟨f_30, ef_30⟩ : ∃ y : Nat → va_E, y = va_up f_26 o0 (.inr (4, [.int v_2, .int v_3, .int v_16, .int v_17, .ref a_18, .ref a_19, .ref a_20, .ref a_21, .int v_22, .int v_23, .int v_24])) := ⟨_, rfl⟩
  have hP : va_P (dC, dI) vwCl (va_pl L f_30) H := by rw [ef_30]; exact hP
  have hD : va_D (fun q => q ∈ L) (va_pl L f_30) := by rw [ef_30]; exact hD
  have hG : GI (okc cI cL cZ cR cG cH L kd) kd L f_30 := by rw [ef_30]; exact hG.set o0 (mk_104 ko0 ⟨v_2, v_3, v_16, v_17, a_18, a_19, a_20, a_21, v_22, v_23, v_24, rfl, (by constructor <;> omega), (by constructor <;> omega), (by constructor <;> omega), (by constructor <;> omega), ⟨ma_18, ka_18⟩, ⟨ma_19, ka_19⟩, ⟨ma_20, ka_20⟩, ⟨ma_21, ka_21⟩⟩)
  have hfo_31 : f_30 o1 = .inr (4, [.int v_2, .int v_3, .int v_4, .int v_5, .ref a_6, .ref a_7, .ref a_8, .ref a_9, .int v_10, .int v_11, .int v_12]) := by rw [ef_30, up_ne (kd_ne ko0 ko1 (by decide))]; exact hfo_27
  have hfr0 : ∀ b, kd b ≠ 104 → kd b ≠ 105 → kd b ≠ 541 → kd b ≠ 542 → kd b ≠ 543 → kd b ≠ 544 → f_30 b = f b := fun b q104 q105 q541 q542 q543 q544 => (congrFun ef_30 b).trans ((up_ne (fun e9 => q104 (by rw [e9]; exact ko0))).trans (hfr0 b q104 q105 q541 q542 q543 q544))
  have hra104_1 : ∀ b, kd b = 104 → b ≠ o0 → fldI (f_30 b) 1 = fldI (f b) 1 := fun b kb nb => (congrArg (fun x => fldI x 1) ((congrFun ef_30 b).trans (up_ne (nb)))).trans (hra104_1 b kb nb)
  have hfo_32 : f_30 o0 = .inr (4, [.int v_2, .int v_3, .int v_16, .int v_17, .ref a_18, .ref a_19, .ref a_20, .ref a_21, .int v_22, .int v_23, .int v_24]) := by rw [ef_30]; exact up_self
  refine lv_aload_n hx hb dX4_copyFrom_16 rfl (lv_at hl 0 rfl) ?_
  refine lv_aload_n hx hb dX4_copyFrom_17 rfl (lv_at hl 1 rfl) ?_
  refine tk_getP (D := (dC, dI)) (ci := 4) (v := .int v_4) (C := RX4) (T := TX4) (N := 11) hx hb hU inlX4 hown hK hP mo1 hfo_31 rfl 2 (by decide) (hU _ wd_409) (fun _ h9 => h9) rfl dX4_copyFrom_18 ?_
  refine tk_putP (D := (dC, dI)) (ci := 4) (v := .int v_4) (ty := .int) (C := RX4) (T := TX4) (N := 11) hx hb hU inlX4 tyX4 tyX4_ok nmX4 hown hK hP hD hS mo0 hfo_32 rfl 2 (by decide) (hU _ wd_409) (fun _ h9 => h9) rfl (by decide +kernel) rfl rfl (Nat.le_of_ble_eq_true rfl) dX4_copyFrom_21 (fun H locs hP hD hS => ?_)
  obtain ⟨f_34, ef_34⟩ : ∃ y : Nat → va_E, y = va_up f_30 o0 (.inr (4, [.int v_2, .int v_3, .int v_4, .int v_17, .ref a_18, .ref a_19, .ref a_20, .ref a_21, .int v_22, .int v_23, .int v_24])) := ⟨_, rfl⟩
  have hP : va_P (dC, dI) vwCl (va_pl L f_34) H := by rw [ef_34]; exact hP
  have hD : va_D (fun q => q ∈ L) (va_pl L f_34) := by rw [ef_34]; exact hD
  have hG : GI (okc cI cL cZ cR cG cH L kd) kd L f_34 := by rw [ef_34]; exact hG.set o0 (mk_104 ko0 ⟨v_2, v_3, v_4, v_17, a_18, a_19, a_20, a_21, v_22, v_23, v_24, rfl, (by constructor <;> omega), (by constructor <;> omega), (by constructor <;> omega), (by constructor <;> omega), ⟨ma_18, ka_18⟩, ⟨ma_19, ka_19⟩, ⟨ma_20, ka_20⟩, ⟨ma_21, ka_21⟩⟩)
  have hfo_35 : f_34 o1 = .inr (4, [.int v_2, .int v_3, .int v_4, .int v_5, .ref a_6, .ref a_7, .ref a_8, .ref a_9, .int v_10, .int v_11, .int v_12]) := by rw [ef_34, up_ne (kd_ne ko0 ko1 (by decide))]; exact hfo_31
  have hfr0 : ∀ b, kd b ≠ 104 → kd b ≠ 105 → kd b ≠ 541 → kd b ≠ 542 → kd b ≠ 543 → kd b ≠ 544 → f_34 b = f b := fun b q104 q105 q541 q542 q543 q544 => (congrFun ef_34 b).trans ((up_ne (fun e9 => q104 (by rw [e9]; exact ko0))).trans (hfr0 b q104 q105 q541 q542 q543 q544))
  have hra104_1 : ∀ b, kd b = 104 → b ≠ o0 → fldI (f_34 b) 1 = fldI (f b) 1 := fun b kb nb => (congrArg (fun x => fldI x 1) ((congrFun ef_34 b).trans (up_ne (nb)))).trans (hra104_1 b kb nb)
  have hfo_36 : f_34 o0 = .inr (4, [.int v_2, .int v_3, .int v_4, .int v_17, .ref a_18, .ref a_19, .ref a_20, .ref a_21, .int v_22, .int v_23, .int v_24]) := by rw [ef_34]; exact up_self
  refine lv_aload_n hx hb dX4_copyFrom_24 rfl (lv_at hl 0 rfl) ?_
  refine lv_aload_n hx hb dX4_copyFrom_25 rfl (lv_at hl 1 rfl) ?_
  refine tk_getP (D := (dC, dI)) (ci := 4) (v := .int v_5) (C := RX4) (T := TX4) (N := 11) hx hb hU inlX4 hown hK hP mo1 hfo_35 rfl 3 (by decide) (hU _ wd_410) (fun _ h9 => h9) rfl dX4_copyFrom_26 ?_
  refine tk_putP (D := (dC, dI)) (ci := 4) (v := .int v_5) (ty := .int) (C := RX4) (T := TX4) (N := 11) hx hb hU inlX4 tyX4 tyX4_ok nmX4 hown hK hP hD hS mo0 hfo_36 rfl 3 (by decide) (hU _ wd_410) (fun _ h9 => h9) rfl (by decide +kernel) rfl rfl (Nat.le_of_ble_eq_true rfl) dX4_copyFrom_29 (fun H locs hP hD hS => ?_)
  obtain ⟨f_38, ef_38⟩ : ∃ y : Nat → va_E, y = va_up f_34 o0 (.inr (4, [.int v_2, .int v_3, .int v_4, .int v_5, .ref a_18, .ref a_19, .ref a_20, .ref a_21, .int v_22, .int v_23, .int v_24])) := ⟨_, rfl⟩
  have hP : va_P (dC, dI) vwCl (va_pl L f_38) H := by rw [ef_38]; exact hP
  have hD : va_D (fun q => q ∈ L) (va_pl L f_38) := by rw [ef_38]; exact hD
  have hG : GI (okc cI cL cZ cR cG cH L kd) kd L f_38 := by rw [ef_38]; exact hG.set o0 (mk_104 ko0 ⟨v_2, v_3, v_4, v_5, a_18, a_19, a_20, a_21, v_22, v_23, v_24, rfl, (by constructor <;> omega), (by constructor <;> omega), (by constructor <;> omega), (by constructor <;> omega), ⟨ma_18, ka_18⟩, ⟨ma_19, ka_19⟩, ⟨ma_20, ka_20⟩, ⟨ma_21, ka_21⟩⟩)
  have hfo_39 : f_38 o1 = .inr (4, [.int v_2, .int v_3, .int v_4, .int v_5, .ref a_6, .ref a_7, .ref a_8, .ref a_9, .int v_10, .int v_11, .int v_12]) := by rw [ef_38, up_ne (kd_ne ko0 ko1 (by decide))]; exact hfo_35
  have hfr0 : ∀ b, kd b ≠ 104 → kd b ≠ 105 → kd b ≠ 541 → kd b ≠ 542 → kd b ≠ 543 → kd b ≠ 544 → f_38 b = f b := fun b q104 q105 q541 q542 q543 q544 => (congrFun ef_38 b).trans ((up_ne (fun e9 => q104 (by rw [e9]; exact ko0))).trans (hfr0 b q104 q105 q541 q542 q543 q544))
  have hra104_1 : ∀ b, kd b = 104 → b ≠ o0 → fldI (f_38 b) 1 = fldI (f b) 1 := fun b kb nb => (congrArg (fun x => fldI x 1) ((congrFun ef_38 b).trans (up_ne (nb)))).trans (hra104_1 b kb nb)
  have hfo_40 : f_38 o0 = .inr (4, [.int v_2, .int v_3, .int v_4, .int v_5, .ref a_18, .ref a_19, .ref a_20, .ref a_21, .int v_22, .int v_23, .int v_24]) := by rw [ef_38]; exact up_self
  refine lv_aload_n hx hb dX4_copyFrom_32 rfl (lv_at hl 0 rfl) ?_
  refine tk_getP (D := (dC, dI)) (ci := 4) (v := .ref a_18) (C := RX4) (T := TX4) (N := 11) hx hb hU inlX4 hown hK hP mo0 hfo_40 rfl 4 (by decide) (hU _ wd_103) (fun _ h9 => h9) rfl dX4_copyFrom_33 ?_
  refine lv_aload_n hx hb dX4_copyFrom_36 rfl (lv_at hl 1 rfl) ?_
  refine tk_getP (D := (dC, dI)) (ci := 4) (v := .ref a_6) (C := RX4) (T := TX4) (N := 11) hx hb hU inlX4 hown hK hP mo1 hfo_39 rfl 4 (by decide) (hU _ wd_103) (fun _ h9 => h9) rfl dX4_copyFrom_37 ?_
  obtain ⟨a_42, a_43, a_44, v_45, v_46, v_47, hfo_41, ⟨ma_42, ka_42⟩, ⟨ma_43, ka_43⟩, ⟨ma_44, ka_44⟩⟩ := un_105 (hG _ ma_18) ka_18
  have bv_45 : ((-2147483648) ≤ v_45.toInt ∧ v_45.toInt ≤ 2147483647) := ⟨i32_lo _, i32_hi _⟩
  have bv_46 : ((-2147483648) ≤ v_46.toInt ∧ v_46.toInt ≤ 2147483647) := ⟨i32_lo _, i32_hi _⟩
  have bv_47 : ((-2147483648) ≤ v_47.toInt ∧ v_47.toInt ≤ 2147483647) := ⟨i32_lo _, i32_hi _⟩
  refine tk_VvP (As := [.ref a_6]) (rest := []) (n := 1) hx hb hml hown hU hN hZ (s_X5_copyFrom_k105_k5 l (dC, dI) cI cL cZ cR cG cH Z kd L f_38 hG a_18 ma_18 ka_18 a_6 ma_6 ka_6) wd_540 wd_541 wd_542 wd_102 wd_543 (by decide +kernel) ⟨Nat.le_of_ble_eq_true rfl, Nat.le_of_ble_eq_true rfl⟩ hK hP hD hS ma_18 hfo_41 5 rfl rfl rfl hl.1 rfl (Nat.le_of_ble_eq_true rfl) dX4_copyFrom_40 ⟨Nat.le_of_ble_eq_true rfl, Nat.le_of_ble_eq_true rfl⟩ (fun f_49 H locs hw hP hD hS => ?_)
  obtain ⟨hG, hkc_50⟩ := hw
  have hfo_52 : f_49 o1 = .inr (4, [.int v_2, .int v_3, .int v_4, .int v_5, .ref a_6, .ref a_7, .ref a_8, .ref a_9, .int v_10, .int v_11, .int v_12]) := by rw [hkc_50 o1 (by rw [ko1]; decide) (by rw [ko1]; decide) (by rw [ko1]; decide)]; exact hfo_39
  have hfo_53 : f_49 o0 = .inr (4, [.int v_2, .int v_3, .int v_4, .int v_5, .ref a_18, .ref a_19, .ref a_20, .ref a_21, .int v_22, .int v_23, .int v_24]) := by rw [hkc_50 o0 (by rw [ko0]; decide) (by rw [ko0]; decide) (by rw [ko0]; decide)]; exact hfo_40
  have hfr0 : ∀ b, kd b ≠ 104 → kd b ≠ 105 → kd b ≠ 541 → kd b ≠ 542 → kd b ≠ 543 → kd b ≠ 544 → f_49 b = f b := fun b q104 q105 q541 q542 q543 q544 => (hkc_50 b q105 q541 q542).trans (hfr0 b q104 q105 q541 q542 q543 q544)
  have hra104_1 : ∀ b, kd b = 104 → b ≠ o0 → fldI (f_49 b) 1 = fldI (f b) 1 := fun b kb nb => (congrArg (fun x => fldI x 1) (hkc_50 b (by rw [kb]; decide) (by rw [kb]; decide) (by rw [kb]; decide))).trans (hra104_1 b kb nb)
  refine lv_aload_n hx hb dX4_copyFrom_43 rfl (lv_at hl 0 rfl) ?_
  refine tk_getP (D := (dC, dI)) (ci := 4) (v := .ref a_19) (C := RX4) (T := TX4) (N := 11) hx hb hU inlX4 hown hK hP mo0 hfo_53 rfl 5 (by decide) (hU _ wd_104) (fun _ h9 => h9) rfl dX4_copyFrom_44 ?_
  refine lv_aload_n hx hb dX4_copyFrom_47 rfl (lv_at hl 1 rfl) ?_
  refine tk_getP (D := (dC, dI)) (ci := 4) (v := .ref a_7) (C := RX4) (T := TX4) (N := 11) hx hb hU inlX4 hown hK hP mo1 hfo_52 rfl 5 (by decide) (hU _ wd_104) (fun _ h9 => h9) rfl dX4_copyFrom_48 ?_
  obtain ⟨a_55, a_56, a_57, v_58, v_59, v_60, hfo_54, ⟨ma_55, ka_55⟩, ⟨ma_56, ka_56⟩, ⟨ma_57, ka_57⟩⟩ := un_105 (hG _ ma_19) ka_19
  have bv_58 : ((-2147483648) ≤ v_58.toInt ∧ v_58.toInt ≤ 2147483647) := ⟨i32_lo _, i32_hi _⟩
  have bv_59 : ((-2147483648) ≤ v_59.toInt ∧ v_59.toInt ≤ 2147483647) := ⟨i32_lo _, i32_hi _⟩
  have bv_60 : ((-2147483648) ≤ v_60.toInt ∧ v_60.toInt ≤ 2147483647) := ⟨i32_lo _, i32_hi _⟩
  refine tk_VvP (As := [.ref a_7]) (rest := []) (n := 1) hx hb hml hown hU hN hZ (s_X5_copyFrom_k105_k5 l (dC, dI) cI cL cZ cR cG cH Z kd L f_49 hG a_19 ma_19 ka_19 a_7 ma_7 ka_7) wd_540 wd_541 wd_542 wd_102 wd_543 (by decide +kernel) ⟨Nat.le_of_ble_eq_true rfl, Nat.le_of_ble_eq_true rfl⟩ hK hP hD hS ma_19 hfo_54 5 rfl rfl rfl hl.1 rfl (Nat.le_of_ble_eq_true rfl) dX4_copyFrom_51 ⟨Nat.le_of_ble_eq_true rfl, Nat.le_of_ble_eq_true rfl⟩ (fun f_62 H locs hw hP hD hS => ?_)
  obtain ⟨hG, hkc_63⟩ := hw
  have hfo_65 : f_62 o1 = .inr (4, [.int v_2, .int v_3, .int v_4, .int v_5, .ref a_6, .ref a_7, .ref a_8, .ref a_9, .int v_10, .int v_11, .int v_12]) := by rw [hkc_63 o1 (by rw [ko1]; decide) (by rw [ko1]; decide) (by rw [ko1]; decide)]; exact hfo_52
  have hfo_66 : f_62 o0 = .inr (4, [.int v_2, .int v_3, .int v_4, .int v_5, .ref a_18, .ref a_19, .ref a_20, .ref a_21, .int v_22, .int v_23, .int v_24]) := by rw [hkc_63 o0 (by rw [ko0]; decide) (by rw [ko0]; decide) (by rw [ko0]; decide)]; exact hfo_53
  have hfr0 : ∀ b, kd b ≠ 104 → kd b ≠ 105 → kd b ≠ 541 → kd b ≠ 542 → kd b ≠ 543 → kd b ≠ 544 → f_62 b = f b := fun b q104 q105 q541 q542 q543 q544 => (hkc_63 b q105 q541 q542).trans (hfr0 b q104 q105 q541 q542 q543 q544)
  have hra104_1 : ∀ b, kd b = 104 → b ≠ o0 → fldI (f_62 b) 1 = fldI (f b) 1 := fun b kb nb => (congrArg (fun x => fldI x 1) (hkc_63 b (by rw [kb]; decide) (by rw [kb]; decide) (by rw [kb]; decide))).trans (hra104_1 b kb nb)
  refine lv_aload_n hx hb dX4_copyFrom_54 rfl (lv_at hl 1 rfl) ?_
  refine tk_getP (D := (dC, dI)) (ci := 4) (v := .ref a_8) (C := RX4) (T := TX4) (N := 11) hx hb hU inlX4 hown hK hP mo1 hfo_65 rfl 6 (by decide) (hU _ wd_105) (fun _ h9 => h9) rfl dX4_copyFrom_55 ?_
  refine lv_iconst (v := 0) hx hb dX4_copyFrom_58 (by decide) ?_
  refine lv_aload_n hx hb dX4_copyFrom_59 rfl (lv_at hl 0 rfl) ?_
  refine tk_getP (D := (dC, dI)) (ci := 4) (v := .ref a_20) (C := RX4) (T := TX4) (N := 11) hx hb hU inlX4 hown hK hP mo0 hfo_66 rfl 6 (by decide) (hU _ wd_105) (fun _ h9 => h9) rfl dX4_copyFrom_60 ?_
  refine lv_iconst (v := 0) hx hb dX4_copyFrom_63 (by decide) ?_
  refine lv_aload_n hx hb dX4_copyFrom_64 rfl (lv_at hl 0 rfl) ?_
  refine tk_getP (D := (dC, dI)) (ci := 4) (v := .ref a_20) (C := RX4) (T := TX4) (N := 11) hx hb hU inlX4 hown hK hP mo0 hfo_66 rfl 6 (by decide) (hU _ wd_105) (fun _ h9 => h9) rfl dX4_copyFrom_65 ?_
  obtain ⟨g_68, hfo_67, hbg_68⟩ := un_543 (hG _ ma_20) ka_20
  refine tk_alenP (v := 20) hx hb hK hP 0 ma_20 hfo_67 rfl rfl dX4_copyFrom_68 ?_
  obtain ⟨g_70, hfo_69, hbg_70⟩ := un_502 (hG _ ma_8) ka_8
  refine tk_copyP hx hb (by rw [hml]; exact hl.1.symm) hown (hU _ wd_539) (hU _ wd_253) (hU _ wd_254) (hU _ wd_255) hK hP hD hS 0 ma_8 ma_20 hfo_69 hfo_67 rfl (by decide) (by decide) (by decide) (by decide) (by decide) (Nat.le_of_ble_eq_true rfl) (Nat.le_of_ble_eq_true rfl) dX4_copyFrom_69 (fun H locs hP hD hS => ?_)
  obtain ⟨f_72, ef_72⟩ : ∃ y : Nat → va_E, y = va_up f_62 a_20 (.inl (cI, 20, .inl (va_cpy g_70 g_68 (Int32.toNatClampNeg 0) (Int32.toNatClampNeg 0) (Int32.toNatClampNeg 20)))) := ⟨_, rfl⟩
  have hP : va_P (dC, dI) vwCl (va_pl L f_72) H := by rw [ef_72]; exact hP
  have hD : va_D (fun q => q ∈ L) (va_pl L f_72) := by rw [ef_72]; exact hD
  have hG : GI (okc cI cL cZ cR cG cH L kd) kd L f_72 := by rw [ef_72]; exact hG.set a_20 (mk_543 ka_20 ⟨_, rfl, okI_cpy (fun j => by have := hbg_70 j; constructor <;> omega) hbg_68 _ _ _⟩)
  have hfo_73 : f_72 o1 = .inr (4, [.int v_2, .int v_3, .int v_4, .int v_5, .ref a_6, .ref a_7, .ref a_8, .ref a_9, .int v_10, .int v_11, .int v_12]) := by rw [ef_72, up_ne (kd_ne ka_20 ko1 (by decide))]; exact hfo_65
  have hfo_74 : f_72 o0 = .inr (4, [.int v_2, .int v_3, .int v_4, .int v_5, .ref a_18, .ref a_19, .ref a_20, .ref a_21, .int v_22, .int v_23, .int v_24]) := by rw [ef_72, up_ne (kd_ne ka_20 ko0 (by decide))]; exact hfo_66
  have hfo_75 : f_72 a_8 = .inl (cI, 20, .inl g_70) := by rw [ef_72, up_ne (kd_ne ka_20 ka_8 (by decide))]; exact hfo_69
  have hfr0 : ∀ b, kd b ≠ 104 → kd b ≠ 105 → kd b ≠ 541 → kd b ≠ 542 → kd b ≠ 543 → kd b ≠ 544 → f_72 b = f b := fun b q104 q105 q541 q542 q543 q544 => (congrFun ef_72 b).trans ((up_ne (fun e9 => q543 (by rw [e9]; exact ka_20))).trans (hfr0 b q104 q105 q541 q542 q543 q544))
  have hra104_1 : ∀ b, kd b = 104 → b ≠ o0 → fldI (f_72 b) 1 = fldI (f b) 1 := fun b kb nb => (congrArg (fun x => fldI x 1) ((congrFun ef_72 b).trans (up_ne (kd_ne ka_20 kb (by decide))))).trans (hra104_1 b kb nb)
  have hfo_76 : f_72 a_20 = .inl (cI, 20, .inl (va_cpy g_70 g_68 (Int32.toNatClampNeg 0) (Int32.toNatClampNeg 0) (Int32.toNatClampNeg 20))) := by rw [ef_72]; exact up_self
  refine lv_aload_n hx hb dX4_copyFrom_72 rfl (lv_at hl 1 rfl) ?_
  refine tk_getP (D := (dC, dI)) (ci := 4) (v := .ref a_9) (C := RX4) (T := TX4) (N := 11) hx hb hU inlX4 hown hK hP mo1 hfo_73 rfl 7 (by decide) (hU _ wd_106) (fun _ h9 => h9) rfl dX4_copyFrom_73 ?_
  refine lv_iconst (v := 0) hx hb dX4_copyFrom_76 (by decide) ?_
  refine lv_aload_n hx hb dX4_copyFrom_77 rfl (lv_at hl 0 rfl) ?_
  refine tk_getP (D := (dC, dI)) (ci := 4) (v := .ref a_21) (C := RX4) (T := TX4) (N := 11) hx hb hU inlX4 hown hK hP mo0 hfo_74 rfl 7 (by decide) (hU _ wd_106) (fun _ h9 => h9) rfl dX4_copyFrom_78 ?_
  refine lv_iconst (v := 0) hx hb dX4_copyFrom_81 (by decide) ?_
  refine lv_aload_n hx hb dX4_copyFrom_82 rfl (lv_at hl 0 rfl) ?_
  refine tk_getP (D := (dC, dI)) (ci := 4) (v := .ref a_21) (C := RX4) (T := TX4) (N := 11) hx hb hU inlX4 hown hK hP mo0 hfo_74 rfl 7 (by decide) (hU _ wd_106) (fun _ h9 => h9) rfl dX4_copyFrom_83 ?_
  obtain ⟨g_78, hfo_77, hbg_78⟩ := un_544 (hG _ ma_21) ka_21
  refine tk_alenP (v := 8) hx hb hK hP 0 ma_21 hfo_77 rfl rfl dX4_copyFrom_86 ?_
  obtain ⟨g_80, hfo_79, hbg_80⟩ := un_503 (hG _ ma_9) ka_9
  refine tk_copyP hx hb (by rw [hml]; exact hl.1.symm) hown (hU _ wd_539) (hU _ wd_253) (hU _ wd_254) (hU _ wd_255) hK hP hD hS 0 ma_9 ma_21 hfo_79 hfo_77 rfl (by decide) (by decide) (by decide) (by decide) (by decide) (Nat.le_of_ble_eq_true rfl) (Nat.le_of_ble_eq_true rfl) dX4_copyFrom_87 (fun H locs hP hD hS => ?_)
  obtain ⟨f_82, ef_82⟩ : ∃ y : Nat → va_E, y = va_up f_72 a_21 (.inl (cI, 8, .inl (va_cpy g_80 g_78 (Int32.toNatClampNeg 0) (Int32.toNatClampNeg 0) (Int32.toNatClampNeg 8)))) := ⟨_, rfl⟩
  have hP : va_P (dC, dI) vwCl (va_pl L f_82) H := by rw [ef_82]; exact hP
  have hD : va_D (fun q => q ∈ L) (va_pl L f_82) := by rw [ef_82]; exact hD
  have hG : GI (okc cI cL cZ cR cG cH L kd) kd L f_82 := by rw [ef_82]; exact hG.set a_21 (mk_544 ka_21 ⟨_, rfl, okI_cpy (fun j => by have := hbg_80 j; constructor <;> omega) hbg_78 _ _ _⟩)
  have hfo_83 : f_82 o1 = .inr (4, [.int v_2, .int v_3, .int v_4, .int v_5, .ref a_6, .ref a_7, .ref a_8, .ref a_9, .int v_10, .int v_11, .int v_12]) := by rw [ef_82, up_ne (kd_ne ka_21 ko1 (by decide))]; exact hfo_73
  have hfo_84 : f_82 o0 = .inr (4, [.int v_2, .int v_3, .int v_4, .int v_5, .ref a_18, .ref a_19, .ref a_20, .ref a_21, .int v_22, .int v_23, .int v_24]) := by rw [ef_82, up_ne (kd_ne ka_21 ko0 (by decide))]; exact hfo_74
  have hfo_85 : f_82 a_8 = .inl (cI, 20, .inl g_70) := by rw [ef_82, up_ne (kd_ne ka_21 ka_8 (by decide))]; exact hfo_75
  have hfo_86 : f_82 a_9 = .inl (cI, 8, .inl g_80) := by rw [ef_82, up_ne (kd_ne ka_21 ka_9 (by decide))]; exact hfo_79
  have hfr0 : ∀ b, kd b ≠ 104 → kd b ≠ 105 → kd b ≠ 541 → kd b ≠ 542 → kd b ≠ 543 → kd b ≠ 544 → f_82 b = f b := fun b q104 q105 q541 q542 q543 q544 => (congrFun ef_82 b).trans ((up_ne (fun e9 => q544 (by rw [e9]; exact ka_21))).trans (hfr0 b q104 q105 q541 q542 q543 q544))
  have hra104_1 : ∀ b, kd b = 104 → b ≠ o0 → fldI (f_82 b) 1 = fldI (f b) 1 := fun b kb nb => (congrArg (fun x => fldI x 1) ((congrFun ef_82 b).trans (up_ne (kd_ne ka_21 kb (by decide))))).trans (hra104_1 b kb nb)
  have hfo_87 : f_82 a_21 = .inl (cI, 8, .inl (va_cpy g_80 g_78 (Int32.toNatClampNeg 0) (Int32.toNatClampNeg 0) (Int32.toNatClampNeg 8))) := by rw [ef_82]; exact up_self
  refine lv_aload_n hx hb dX4_copyFrom_90 rfl (lv_at hl 0 rfl) ?_
  refine lv_aload_n hx hb dX4_copyFrom_91 rfl (lv_at hl 1 rfl) ?_
  refine tk_getP (D := (dC, dI)) (ci := 4) (v := .int v_10) (C := RX4) (T := TX4) (N := 11) hx hb hU inlX4 hown hK hP mo1 hfo_83 rfl 8 (by decide) (hU _ wd_493) (fun _ h9 => h9) rfl dX4_copyFrom_92 ?_
  refine tk_putP (D := (dC, dI)) (ci := 4) (v := .int v_10) (ty := .int) (C := RX4) (T := TX4) (N := 11) hx hb hU inlX4 tyX4 tyX4_ok nmX4 hown hK hP hD hS mo0 hfo_84 rfl 8 (by decide) (hU _ wd_493) (fun _ h9 => h9) rfl (by decide +kernel) rfl rfl (Nat.le_of_ble_eq_true rfl) dX4_copyFrom_95 (fun H locs hP hD hS => ?_)
  obtain ⟨f_89, ef_89⟩ : ∃ y : Nat → va_E, y = va_up f_82 o0 (.inr (4, [.int v_2, .int v_3, .int v_4, .int v_5, .ref a_18, .ref a_19, .ref a_20, .ref a_21, .int v_10, .int v_23, .int v_24])) := ⟨_, rfl⟩
  have hP : va_P (dC, dI) vwCl (va_pl L f_89) H := by rw [ef_89]; exact hP
  have hD : va_D (fun q => q ∈ L) (va_pl L f_89) := by rw [ef_89]; exact hD
  have hG : GI (okc cI cL cZ cR cG cH L kd) kd L f_89 := by rw [ef_89]; exact hG.set o0 (mk_104 ko0 ⟨v_2, v_3, v_4, v_5, a_18, a_19, a_20, a_21, v_10, v_23, v_24, rfl, (by constructor <;> omega), (by constructor <;> omega), (by constructor <;> omega), (by constructor <;> omega), ⟨ma_18, ka_18⟩, ⟨ma_19, ka_19⟩, ⟨ma_20, ka_20⟩, ⟨ma_21, ka_21⟩⟩)
  have hfo_90 : f_89 o1 = .inr (4, [.int v_2, .int v_3, .int v_4, .int v_5, .ref a_6, .ref a_7, .ref a_8, .ref a_9, .int v_10, .int v_11, .int v_12]) := by rw [ef_89, up_ne (kd_ne ko0 ko1 (by decide))]; exact hfo_83
  have hfo_91 : f_89 a_8 = .inl (cI, 20, .inl g_70) := by rw [ef_89, up_ne (kd_ne ko0 ka_8 (by decide))]; exact hfo_85
  have hfo_92 : f_89 a_9 = .inl (cI, 8, .inl g_80) := by rw [ef_89, up_ne (kd_ne ko0 ka_9 (by decide))]; exact hfo_86
  have hfr0 : ∀ b, kd b ≠ 104 → kd b ≠ 105 → kd b ≠ 541 → kd b ≠ 542 → kd b ≠ 543 → kd b ≠ 544 → f_89 b = f b := fun b q104 q105 q541 q542 q543 q544 => (congrFun ef_89 b).trans ((up_ne (fun e9 => q104 (by rw [e9]; exact ko0))).trans (hfr0 b q104 q105 q541 q542 q543 q544))
  have hra104_1 : ∀ b, kd b = 104 → b ≠ o0 → fldI (f_89 b) 1 = fldI (f b) 1 := fun b kb nb => (congrArg (fun x => fldI x 1) ((congrFun ef_89 b).trans (up_ne (nb)))).trans (hra104_1 b kb nb)
  have hfo_93 : f_89 o0 = .inr (4, [.int v_2, .int v_3, .int v_4, .int v_5, .ref a_18, .ref a_19, .ref a_20, .ref a_21, .int v_10, .int v_23, .int v_24]) := by rw [ef_89]; exact up_self
  refine lv_aload_n hx hb dX4_copyFrom_98 rfl (lv_at hl 0 rfl) ?_
  refine lv_aload_n hx hb dX4_copyFrom_99 rfl (lv_at hl 1 rfl) ?_
  refine tk_getP (D := (dC, dI)) (ci := 4) (v := .int v_11) (C := RX4) (T := TX4) (N := 11) hx hb hU inlX4 hown hK hP mo1 hfo_90 rfl 9 (by decide) (hU _ wd_494) (fun _ h9 => h9) rfl dX4_copyFrom_100 ?_
  refine tk_putP (D := (dC, dI)) (ci := 4) (v := .int v_11) (ty := .int) (C := RX4) (T := TX4) (N := 11) hx hb hU inlX4 tyX4 tyX4_ok nmX4 hown hK hP hD hS mo0 hfo_93 rfl 9 (by decide) (hU _ wd_494) (fun _ h9 => h9) rfl (by decide +kernel) rfl rfl (Nat.le_of_ble_eq_true rfl) dX4_copyFrom_103 (fun H locs hP hD hS => ?_)
  obtain ⟨f_95, ef_95⟩ : ∃ y : Nat → va_E, y = va_up f_89 o0 (.inr (4, [.int v_2, .int v_3, .int v_4, .int v_5, .ref a_18, .ref a_19, .ref a_20, .ref a_21, .int v_10, .int v_11, .int v_24])) := ⟨_, rfl⟩
  have hP : va_P (dC, dI) vwCl (va_pl L f_95) H := by rw [ef_95]; exact hP
  have hD : va_D (fun q => q ∈ L) (va_pl L f_95) := by rw [ef_95]; exact hD
  have hG : GI (okc cI cL cZ cR cG cH L kd) kd L f_95 := by rw [ef_95]; exact hG.set o0 (mk_104 ko0 ⟨v_2, v_3, v_4, v_5, a_18, a_19, a_20, a_21, v_10, v_11, v_24, rfl, (by constructor <;> omega), (by constructor <;> omega), (by constructor <;> omega), (by constructor <;> omega), ⟨ma_18, ka_18⟩, ⟨ma_19, ka_19⟩, ⟨ma_20, ka_20⟩, ⟨ma_21, ka_21⟩⟩)
  have hfo_96 : f_95 o1 = .inr (4, [.int v_2, .int v_3, .int v_4, .int v_5, .ref a_6, .ref a_7, .ref a_8, .ref a_9, .int v_10, .int v_11, .int v_12]) := by rw [ef_95, up_ne (kd_ne ko0 ko1 (by decide))]; exact hfo_90
  have hfo_97 : f_95 a_8 = .inl (cI, 20, .inl g_70) := by rw [ef_95, up_ne (kd_ne ko0 ka_8 (by decide))]; exact hfo_91
  have hfo_98 : f_95 a_9 = .inl (cI, 8, .inl g_80) := by rw [ef_95, up_ne (kd_ne ko0 ka_9 (by decide))]; exact hfo_92
  have hfr0 : ∀ b, kd b ≠ 104 → kd b ≠ 105 → kd b ≠ 541 → kd b ≠ 542 → kd b ≠ 543 → kd b ≠ 544 → f_95 b = f b := fun b q104 q105 q541 q542 q543 q544 => (congrFun ef_95 b).trans ((up_ne (fun e9 => q104 (by rw [e9]; exact ko0))).trans (hfr0 b q104 q105 q541 q542 q543 q544))
  have hra104_1 : ∀ b, kd b = 104 → b ≠ o0 → fldI (f_95 b) 1 = fldI (f b) 1 := fun b kb nb => (congrArg (fun x => fldI x 1) ((congrFun ef_95 b).trans (up_ne (nb)))).trans (hra104_1 b kb nb)
  have hfo_99 : f_95 o0 = .inr (4, [.int v_2, .int v_3, .int v_4, .int v_5, .ref a_18, .ref a_19, .ref a_20, .ref a_21, .int v_10, .int v_11, .int v_24]) := by rw [ef_95]; exact up_self
  refine lv_aload_n hx hb dX4_copyFrom_106 rfl (lv_at hl 0 rfl) ?_
  refine lv_aload_n hx hb dX4_copyFrom_107 rfl (lv_at hl 1 rfl) ?_
  refine tk_getP (D := (dC, dI)) (ci := 4) (v := .int v_12) (C := RX4) (T := TX4) (N := 11) hx hb hU inlX4 hown hK hP mo1 hfo_96 rfl 10 (by decide) (hU _ wd_495) (fun _ h9 => h9) rfl dX4_copyFrom_108 ?_
  refine tk_putP (D := (dC, dI)) (ci := 4) (v := .int v_12) (ty := .int) (C := RX4) (T := TX4) (N := 11) hx hb hU inlX4 tyX4 tyX4_ok nmX4 hown hK hP hD hS mo0 hfo_99 rfl 10 (by decide) (hU _ wd_495) (fun _ h9 => h9) rfl (by decide +kernel) rfl rfl (Nat.le_of_ble_eq_true rfl) dX4_copyFrom_111 (fun H locs hP hD hS => ?_)
  obtain ⟨f_101, ef_101⟩ : ∃ y : Nat → va_E, y = va_up f_95 o0 (.inr (4, [.int v_2, .int v_3, .int v_4, .int v_5, .ref a_18, .ref a_19, .ref a_20, .ref a_21, .int v_10, .int v_11, .int v_12])) := ⟨_, rfl⟩
  have hP : va_P (dC, dI) vwCl (va_pl L f_101) H := by rw [ef_101]; exact hP
  have hD : va_D (fun q => q ∈ L) (va_pl L f_101) := by rw [ef_101]; exact hD
  have hG : GI (okc cI cL cZ cR cG cH L kd) kd L f_101 := by rw [ef_101]; exact hG.set o0 (mk_104 ko0 ⟨v_2, v_3, v_4, v_5, a_18, a_19, a_20, a_21, v_10, v_11, v_12, rfl, (by constructor <;> omega), (by constructor <;> omega), (by constructor <;> omega), (by constructor <;> omega), ⟨ma_18, ka_18⟩, ⟨ma_19, ka_19⟩, ⟨ma_20, ka_20⟩, ⟨ma_21, ka_21⟩⟩)
  have hfo_102 : f_101 o1 = .inr (4, [.int v_2, .int v_3, .int v_4, .int v_5, .ref a_6, .ref a_7, .ref a_8, .ref a_9, .int v_10, .int v_11, .int v_12]) := by rw [ef_101, up_ne (kd_ne ko0 ko1 (by decide))]; exact hfo_96
  have hfo_103 : f_101 a_8 = .inl (cI, 20, .inl g_70) := by rw [ef_101, up_ne (kd_ne ko0 ka_8 (by decide))]; exact hfo_97
  have hfo_104 : f_101 a_9 = .inl (cI, 8, .inl g_80) := by rw [ef_101, up_ne (kd_ne ko0 ka_9 (by decide))]; exact hfo_98
  have hfr0 : ∀ b, kd b ≠ 104 → kd b ≠ 105 → kd b ≠ 541 → kd b ≠ 542 → kd b ≠ 543 → kd b ≠ 544 → f_101 b = f b := fun b q104 q105 q541 q542 q543 q544 => (congrFun ef_101 b).trans ((up_ne (fun e9 => q104 (by rw [e9]; exact ko0))).trans (hfr0 b q104 q105 q541 q542 q543 q544))
  have hra104_1 : ∀ b, kd b = 104 → b ≠ o0 → fldI (f_101 b) 1 = fldI (f b) 1 := fun b kb nb => (congrArg (fun x => fldI x 1) ((congrFun ef_101 b).trans (up_ne (nb)))).trans (hra104_1 b kb nb)
  have hfo_105 : f_101 o0 = .inr (4, [.int v_2, .int v_3, .int v_4, .int v_5, .ref a_18, .ref a_19, .ref a_20, .ref a_21, .int v_10, .int v_11, .int v_12]) := by rw [ef_101]; exact up_self
  exact W.vret hx hb hr (fun t ht hW => ⟨⟨f_101, rfl, ⟨hG, hfr0, hra104_1, (fun w9 h9 => by rw [hfo_1] at h9; obtain rfl := Option.some.inj h9; rw [hfo_105]; rfl)⟩, by rw [ht]; exact hP, va_K.moved hW.alike hK, pl_in hD⟩, hS.F ht⟩) hS.2.2 dX4_copyFrom_114
