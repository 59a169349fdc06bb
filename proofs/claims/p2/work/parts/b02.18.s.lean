set_option maxHeartbeats 8000000 in
set_option maxRecDepth 100000 in
theorem s_X4_clear_k204_t (l : Launch) (D : va_G) (cI cL cZ cR cG cH : ClassId) (Z : zT) (kd : Nat → Nat) (L : List Nat) (f : Nat → va_E) (hG : GI (okc cI cL cZ cR cG cH L kd) kd L f) (o0 : Nat) (mo0 : o0 ∈ L) (ko0 : kd o0 = 204) (p1 : Int32) (bp1 : (0 ≤ p1.toInt ∧ p1.toInt ≤ 8)) (p2 : Int32) (bp2 : (0 ≤ p2.toInt ∧ p2.toInt ≤ 8)) : mPV l D cI cL cZ cR cG cH Z yX4_clear cX4_clear 3 none 2 43 [.ref o0, .int p1, .int p2] L f (fun (f9 : Nat → va_E) => GI (okc cI cL cZ cR cG cH L kd) kd L f9 ∧ (∀ b, kd b ≠ 204 → kd b ≠ 205 → kd b ≠ 558 → kd b ≠ 559 → f9 b = f b) ∧ (∀ b, kd b = 204 → b ≠ o0 → fldI (f9 b) 1 = fldI (f b) 1) ∧ (∀ (w1 z1 : Int32) (w3 z3 : Int32), fldI (f o0) 1 = some w1 → fldI (f o0) 3 = some w3 → fldI (f9 o0) 1 = some z1 → fldI (f9 o0) 3 = some z3 → z1.toInt = p2.toInt ∧ z3.toInt = 0)) := by
  obtain ⟨dC, dI⟩ := D
  refine Met.ofW (cc := cX4_clear) (maxL := 3) (ret := none) (by decide) rfl ?_
  intro p e s m args below meth c s₁ B hml hv
  obtain ⟨rfl, hP, hK, hD0, hN, hZ⟩ := hv
  have hx := B.exec
  have hb := B.bytes
  have hr := B.returns
  have hU : ∀ w ∈ wsU, w.before _ s = true := fun w h => atoms_spec (ws := wU yX4_clear cX4_clear 3 none) B.pre w (List.mem_cons_of_mem _ h)
  have hown : s.vm.findClass RX4 = some m.cls := findClass_of_methodNamed B.named
  have hlocks := B.notSynchronized
  have hD := pl_in hD0
  have hS : va_S (fun q => q ∈ L) s.heap s.heap [] := va_S.rf
  have hl := lv_entry ([.ref o0, .int p1, .int p2]) (n := 3) (Nat.le_of_ble_eq_true rfl)
  rw [lg_entry_eq]
  generalize (lg_sl ([.ref o0, .int p1, .int p2]) ++ List.replicate (3 - (lg_sl ([.ref o0, .int p1, .int p2])).length) Slot.unset).toArray = ls at hl ⊢
  have hl : lv_has ls 3 [(0, .ref o0), (1, .int p1), (2, .int p2)] := hl
  have hfr0 : ∀ b, kd b ≠ 204 → kd b ≠ 205 → kd b ≠ 558 → kd b ≠ 559 → f b = f b := fun _ _ _ _ _ => rfl
  have hra204_1 : ∀ b, kd b = 204 → b ≠ o0 → fldI (f b) 1 = fldI (f b) 1 := fun _ _ _ => rfl
  obtain ⟨v_2, v_3, v_4, v_5, a_6, a_7, a_8, a_9, v_10, v_11, v_12, hfo_1, bv_2, bv_3, bv_4, bv_5, ⟨ma_6, ka_6⟩, ⟨ma_7, ka_7⟩, ⟨ma_8, ka_8⟩, ⟨ma_9, ka_9⟩⟩ := un_204 (hG _ mo0) ko0
  have bv_10 : ((-2147483648) ≤ v_10.toInt ∧ v_10.toInt ≤ 2147483647) := ⟨i32_lo _, i32_hi _⟩
  have bv_11 : ((-2147483648) ≤ v_11.toInt ∧ v_11.toInt ≤ 2147483647) := ⟨i32_lo _, i32_hi _⟩
  have bv_12 : ((-2147483648) ≤ v_12.toInt ∧ v_12.toInt ≤ 2147483647) := ⟨i32_lo _, i32_hi _⟩
  refine lv_aload_n hx hb dX4_clear_0 rfl (lv_at hl 0 rfl) ?_
  refine lv_iload_n hx hb dX4_clear_1 rfl (lv_at hl 1 rfl) ?_
  refine tk_putP (D := (dC, dI)) (ci := 4) (v := .int p1) (ty := .int) (C := RX4) (T := TX4) (N := 11) hx hb hU inlX4 tyX4 tyX4_ok nmX4 hown hK hP hD hS mo0 hfo_1 rfl 0 (by decide) (hU _ wd_407) (fun _ h9 => h9) rfl (by decide +kernel) rfl rfl (Nat.le_of_ble_eq_true rfl) dX4_clear_2 (fun H locs hP hD hS => ?_)
  obtain ⟨f_14, ef_14⟩ : ∃ y : Nat → va_E, y = va_up f o0 (.inr (4, [.int p1, .int v_3, .int v_4, .int v_5, .ref a_6, .ref a_7, .ref a_8, .ref a_9, .int v_10, .int v_11, .int v_12])) := ⟨_, rfl⟩
  have hP : va_P (dC, dI) vwCl (va_pl L f_14) H := by rw [ef_14]; exact hP
  have hD : va_D (fun q => q ∈ L) (va_pl L f_14) := by rw [ef_14]; exact hD
  have hG : GI (okc cI cL cZ cR cG cH L kd) kd L f_14 := by rw [ef_14]; exact hG.set o0 (mk_204 ko0 ⟨p1, v_3, v_4, v_5, a_6, a_7, a_8, a_9, v_10, v_11, v_12, rfl, (by constructor <;> omega), (by constructor <;> omega), (by constructor <;> omega), (by constructor <;> omega), ⟨ma_6, ka_6⟩, ⟨ma_7, ka_7⟩, ⟨ma_8, ka_8⟩, ⟨ma_9, ka_9⟩⟩)
  have hfr0 : ∀ b, kd b ≠ 204 → kd b ≠ 205 → kd b ≠ 558 → kd b ≠ 559 → f_14 b = f b := fun b q204 q205 q558 q559 => (congrFun ef_14 b).trans ((up_ne (fun e9 => q204 (by rw [e9]; exact ko0))).trans (hfr0 b q204 q205 q558 q559))
  have hra204_1 : ∀ b, kd b = 204 → b ≠ o0 → fldI (f_14 b) 1 = fldI (f b) 1 := fun b kb nb => (congrArg (fun x => fldI x 1) ((congrFun ef_14 b).trans (up_ne (nb)))).trans (hra204_1 b kb nb)
  have hfo_15 : f_14 o0 = .inr (4, [.int p1, .int v_3, .int v_4, .int v_5, .ref a_6, .ref a_7, .ref a_8, .ref a_9, .int v_10, .int v_11, .int v_12]) := by rw [ef_14]; exact up_self
  refine lv_aload_n hx hb dX4_clear_5 rfl (lv_at hl 0 rfl) ?_
  refine lv_iload_n hx hb dX4_clear_6 rfl (lv_at hl 2 rfl) ?_
  refine tk_putP (D := (dC, dI)) (ci := 4) (v := .int p2) (ty := .int) (C := RX4) (T := TX4) (N := 11) hx hb hU inlX4 tyX4 tyX4_ok nmX4 hown hK hP hD hS mo0 hfo_15 rfl 1 (by decide) (hU _ wd_408) (fun _ h9 => h9) rfl (by decide +kernel) rfl rfl (Nat.le_of_ble_eq_true rfl) dX4_clear_7 (fun H locs hP hD hS => ?_)
  obtain ⟨f_17, ef_17⟩ : ∃ y : Nat → va_E, y = va_up f_14 o0 (.inr (4, [.int p1, .int p2, .int v_4, .int v_5, .ref a_6, .ref a_7, .ref a_8, .ref a_9, .int v_10, .int v_11, .int v_12])) := ⟨_, rfl⟩
  have hP : va_P (dC, dI) vwCl (va_pl L f_17) H := by rw [ef_17]; exact hP
  have hD : va_D (fun q => q ∈ L) (va_pl L f_17) := by rw [ef_17]; exact hD
  have hG : GI (okc cI cL cZ cR cG cH L kd) kd L f_17 := by rw [ef_17]; exact hG.set o0 (mk_204 ko0 ⟨p1, p2, v_4, v_5, a_6, a_7, a_8, a_9, v_10, v_11, v_12, rfl, (by constructor <;> omega), (by constructor <;> omega), (by constructor <;> omega), (by constructor <;> omega), ⟨ma_6, ka_6⟩, ⟨ma_7, ka_7⟩, ⟨ma_8, ka_8⟩, ⟨ma_9, ka_9⟩⟩)
  have hfr0 : ∀ b, kd b ≠ 204 → kd b ≠ 205 → kd b ≠ 558 → kd b ≠ 559 → f_17 b = f b := fun b q204 q205 q558 q559 => (congrFun ef_17 b).trans ((up_ne (fun e9 => q204 (by rw [e9]; exact ko0))).trans (hfr0 b q204 q205 q558 q559))
  have hra204_1 : ∀ b, kd b = 204 → b ≠ o0 → fldI (f_17 b) 1 = fldI (f b) 1 := fun b kb nb => (congrArg (fun x => fldI x 1) ((congrFun ef_17 b).trans (up_ne (nb)))).trans (hra204_1 b kb nb)
  have hfo_18 : f_17 o0 = .inr (4, [.int p1, .int p2, .int v_4, .int v_5, .ref a_6, .ref a_7, .ref a_8, .ref a_9, .int v_10, .int v_11, .int v_12]) := by rw [ef_17]; exact up_self
  refine lv_aload_n hx hb dX4_clear_10 rfl (lv_at hl 0 rfl) ?_
  refine lv_iconst (v := 0) hx hb dX4_clear_11 (by decide) ?_
  refine tk_putP (D := (dC, dI)) (ci := 4) (v := .int 0) (ty := .int) (C := RX4) (T := TX4) (N := 11) hx hb hU inlX4 tyX4 tyX4_ok nmX4 hown hK hP hD hS mo0 hfo_18 rfl 2 (by decide) (hU _ wd_409) (fun _ h9 => h9) rfl (by decide +kernel) rfl rfl (Nat.le_of_ble_eq_true rfl) dX4_clear_12 (fun H locs hP hD hS => ?_)
  obtain ⟨f_20, ef_20⟩ : ∃ y : Nat → va_E, y = va_up f_17 o0 (.inr (4, [.int p1, .int p2, .int 0, .int v_5, .ref a_6, .ref a_7, .ref a_8, .ref a_9, .int v_10, .int v_11, .int v_12])) := ⟨_, rfl⟩
  have hP : va_P (dC, dI) vwCl (va_pl L f_20) H := by rw [ef_20]; exact hP
  have hD : va_D (fun q => q ∈ L) (va_pl L f_20) := by rw [ef_20]; exact hD
  have hG : GI (okc cI cL cZ cR cG cH L kd) kd L f_20 := by rw [ef_20]; exact hG.set o0 (mk_204 ko0 ⟨p1, p2, 0, v_5, a_6, a_7, a_8, a_9, v_10, v_11, v_12, rfl, (by constructor <;> omega), (by constructor <;> omega), (by decide), (by constructor <;> omega), ⟨ma_6, ka_6⟩, ⟨ma_7, ka_7⟩, ⟨ma_8, ka_8⟩, ⟨ma_9, ka_9⟩⟩)
  have hfr0 : ∀ b, kd b ≠ 204 → kd b ≠ 205 → kd b ≠ 558 → kd b ≠ 559 → f_20 b = f b := fun b q204 q205 q558 q559 => (congrFun ef_20 b).trans ((up_ne (fun e9 => q204 (by rw [e9]; exact ko0))).trans (hfr0 b q204 q205 q558 q559))
  have hra204_1 : ∀ b, kd b = 204 → b ≠ o0 → fldI (f_20 b) 1 = fldI (f b) 1 := fun b kb nb => (congrArg (fun x => fldI x 1) ((congrFun ef_20 b).trans (up_ne (nb)))).trans (hra204_1 b kb nb)
  have hfo_21 : f_20 o0 = .inr (4, [.int p1, .int p2, .int 0, .int v_5, .ref a_6, .ref a_7, .ref a_8, .ref a_9, .int v_10, .int v_11, .int v_12]) := by rw [ef_20]; exact up_self
  refine lv_aload_n hx hb dX4_clear_15 rfl (lv_at hl 0 rfl) ?_
  refine lv_iconst (v := 0) hx hb dX4_clear_16 (by decide) ?_
  refine tk_putP (D := (dC, dI)) (ci := 4) (v := .int 0) (ty := .int) (C := RX4) (T := TX4) (N := 11) hx hb hU inlX4 tyX4 tyX4_ok nmX4 hown hK hP hD hS mo0 hfo_21 rfl 3 (by decide) (hU _ wd_410) (fun _ h9 => h9) rfl (by decide +kernel) rfl rfl (Nat.le_of_ble_eq_true rfl) dX4_clear_17 (fun H locs hP hD hS => ?_)
  obtain ⟨f_23, ef_23⟩ : ∃ y : Nat → va_E, y = va_up f_20 o0 (.inr (4, [.int p1, .int p2, .int 0, .int 0, .ref a_6, .ref a_7, .ref a_8, .ref a_9, .int v_10, .int v_11, .int v_12])) := ⟨_, rfl⟩
  have hP : va_P (dC, dI) vwCl (va_pl L f_23) H := by rw [ef_23]; exact hP
  have hD : va_D (fun q => q ∈ L) (va_pl L f_23) := by rw [ef_23]; exact hD
  have hG : GI (okc cI cL cZ cR cG cH L kd) kd L f_23 := by rw [ef_23]; exact hG.set o0 (mk_204 ko0 ⟨p1, p2, 0, 0, a_6, a_7, a_8, a_9, v_10, v_11, v_12, rfl, (by constructor <;> omega), (by constructor <;> omega), (by decide), (by decide), ⟨ma_6, ka_6⟩, ⟨ma_7, ka_7⟩, ⟨ma_8, ka_8⟩, ⟨ma_9, ka_9⟩⟩)
  have hfr0 : ∀ b, kd b ≠ 204 → kd b ≠ 205 → kd b ≠ 558 → kd b ≠ 559 → f_23 b = f b := fun b q204 q205 q558 q559 => (congrFun ef_23 b).trans ((up_ne (fun e9 => q204 (by rw [e9]; exact ko0))).trans (hfr0 b q204 q205 q558 q559))
  have hra204_1 : ∀ b, kd b = 204 → b ≠ o0 → fldI (f_23 b) 1 = fldI (f b) 1 := fun b kb nb => (congrArg (fun x => fldI x 1) ((congrFun ef_23 b).trans (up_ne (nb)))).trans (hra204_1 b kb nb)
  have hfo_24 : f_23 o0 = .inr (4, [.int p1, .int p2, .int 0, .int 0, .ref a_6, .ref a_7, .ref a_8, .ref a_9, .int v_10, .int v_11, .int v_12]) := by rw [ef_23]; exact up_self
  refine lv_aload_n hx hb dX4_clear_20 rfl (lv_at hl 0 rfl) ?_
  refine tk_getP (D := (dC, dI)) (ci := 4) (v := .ref a_6) (C := RX4) (T := TX4) (N := 11) hx hb hU inlX4 hown hK hP mo0 hfo_24 rfl 4 (by decide) (hU _ wd_103) (fun _ h9 => h9) rfl dX4_clear_21 ?_
  obtain ⟨a_26, a_27, a_28, v_29, v_30, v_31, hfo_25, ⟨ma_26, ka_26⟩, ⟨ma_27, ka_27⟩, ⟨ma_28, ka_28⟩⟩ := un_205 (hG _ ma_6) ka_6
  have bv_29 : ((-2147483648) ≤ v_29.toInt ∧ v_29.toInt ≤ 2147483647) := ⟨i32_lo _, i32_hi _⟩
  have bv_30 : ((-2147483648) ≤ v_30.toInt ∧ v_30.toInt ≤ 2147483647) := ⟨i32_lo _, i32_hi _⟩
  have bv_31 : ((-2147483648) ≤ v_31.toInt ∧ v_31.toInt ≤ 2147483647) := ⟨i32_lo _, i32_hi _⟩
  refine tk_VvP (As := []) (rest := []) (n := 0) hx hb hml hown hU hN hZ (s_X5_clear_k205 l (dC, dI) cI cL cZ cR cG cH Z kd L f_23 hG a_6 ma_6 ka_6) wd_411 wd_412 wd_413 wd_102 wd_414 (by decide +kernel) ⟨Nat.le_of_ble_eq_true rfl, Nat.le_of_ble_eq_true rfl⟩ hK hP hD hS ma_6 hfo_25 5 rfl rfl rfl hl.1 rfl (Nat.le_of_ble_eq_true rfl) dX4_clear_24 ⟨Nat.le_of_ble_eq_true rfl, Nat.le_of_ble_eq_true rfl⟩ (fun f_33 H locs hw hP hD hS => ?_)
  obtain ⟨hG, hkc_34⟩ := hw
  have hfo_36 : f_33 o0 = .inr (4, [.int p1, .int p2, .int 0, .int 0, .ref a_6, .ref a_7, .ref a_8, .ref a_9, .int v_10, .int v_11, .int v_12]) := by rw [hkc_34 o0 (by rw [ko0]; decide) (by rw [ko0]; decide) (by rw [ko0]; decide)]; exact hfo_24
  have hfr0 : ∀ b, kd b ≠ 204 → kd b ≠ 205 → kd b ≠ 558 → kd b ≠ 559 → f_33 b = f b := fun b q204 q205 q558 q559 => (hkc_34 b q205 q558 q559).trans (hfr0 b q204 q205 q558 q559)
  have hra204_1 : ∀ b, kd b = 204 → b ≠ o0 → fldI (f_33 b) 1 = fldI (f b) 1 := fun b kb nb => (congrArg (fun x => fldI x 1) (hkc_34 b (by rw [kb]; decide) (by rw [kb]; decide) (by rw [kb]; decide))).trans (hra204_1 b kb nb)
  refine lv_aload_n hx hb dX4_clear_27 rfl (lv_at hl 0 rfl) ?_
  refine tk_getP (D := (dC, dI)) (ci := 4) (v := .ref a_7) (C := RX4) (T := TX4) (N := 11) hx hb hU inlX4 hown hK hP mo0 hfo_36 rfl 5 (by decide) (hU _ wd_104) (fun _ h9 => h9) rfl dX4_clear_28 ?_
  obtain ⟨a_38, a_39, a_40, v_41, v_42, v_43, hfo_37, ⟨ma_38, ka_38⟩, ⟨ma_39, ka_39⟩, ⟨ma_40, ka_40⟩⟩ := un_205 (hG _ ma_7) ka_7
  have bv_41 : ((-2147483648) ≤ v_41.toInt ∧ v_41.toInt ≤ 2147483647) := ⟨i32_lo _, i32_hi _⟩
  have bv_42 : ((-2147483648) ≤ v_42.toInt ∧ v_42.toInt ≤ 2147483647) := ⟨i32_lo _, i32_hi _⟩
  have bv_43 : ((-2147483648) ≤ v_43.toInt ∧ v_43.toInt ≤ 2147483647) := ⟨i32_lo _, i32_hi _⟩
  refine tk_VvP (As := []) (rest := []) (n := 0) hx hb hml hown hU hN hZ (s_X5_clear_k205 l (dC, dI) cI cL cZ cR cG cH Z kd L f_33 hG a_7 ma_7 ka_7) wd_411 wd_412 wd_413 wd_102 wd_414 (by decide +kernel) ⟨Nat.le_of_ble_eq_true rfl, Nat.le_of_ble_eq_true rfl⟩ hK hP hD hS ma_7 hfo_37 5 rfl rfl rfl hl.1 rfl (Nat.le_of_ble_eq_true rfl) dX4_clear_31 ⟨Nat.le_of_ble_eq_true rfl, Nat.le_of_ble_eq_true rfl⟩ (fun f_45 H locs hw hP hD hS => ?_)
  obtain ⟨hG, hkc_46⟩ := hw
  have hfo_48 : f_45 o0 = .inr (4, [.int p1, .int p2, .int 0, .int 0, .ref a_6, .ref a_7, .ref a_8, .ref a_9, .int v_10, .int v_11, .int v_12]) := by rw [hkc_46 o0 (by rw [ko0]; decide) (by rw [ko0]; decide) (by rw [ko0]; decide)]; exact hfo_36
  have hfr0 : ∀ b, kd b ≠ 204 → kd b ≠ 205 → kd b ≠ 558 → kd b ≠ 559 → f_45 b = f b := fun b q204 q205 q558 q559 => (hkc_46 b q205 q558 q559).trans (hfr0 b q204 q205 q558 q559)
  have hra204_1 : ∀ b, kd b = 204 → b ≠ o0 → fldI (f_45 b) 1 = fldI (f b) 1 := fun b kb nb => (congrArg (fun x => fldI x 1) (hkc_46 b (by rw [kb]; decide) (by rw [kb]; decide) (by rw [kb]; decide))).trans (hra204_1 b kb nb)
  exact W.vret hx hb hr (fun t ht hW => ⟨⟨f_45, rfl, ⟨hG, hfr0, hra204_1, (by intro w1 z1 w3 z3 e1 e3 d1 d3; rw [hfo_1] at e1 e3; rw [hfo_48] at d1 d3; obtain rfl := Option.some.inj e1; obtain rfl := Option.some.inj d1; obtain rfl := Option.some.inj e3; obtain rfl := Option.some.inj d3; (try rw [ti_0]) <;> omega)⟩, by rw [ht]; exact hP, va_K.moved hW.alike hK, pl_in hD⟩, hS.F ht⟩) hS.2.2 dX4_clear_34
set_option maxHeartbeats 8000000 in
set_option maxRecDepth 100000 in
theorem s_X2_readRule_k2 (l : Launch) (D : va_G) (cI cL cZ cR cG cH : ClassId) (Z : zT) (kd : Nat → Nat) (L : List Nat) (f : Nat → va_E) (hG : GI (okc cI cL cZ cR cG cH L kd) kd L f) (o0 : Nat) (mo0 : o0 ∈ L) (ko0 : kd o0 = 2) (p1 : Int32) (hxtr0 : ∀ d9, fldR (f o0) 0 = some d9 → trel kd 207 566 568 573 204 f d9) : mPI l D cI cL cZ cR cG cH Z yX2_readRule cX2_readRule 4 (some .boolean) 6 129 [.ref o0, .int p1] L f (fun (r : Int32) (f9 : Nat → va_E) => GI (okc cI cL cZ cR cG cH L kd) kd L f9 ∧ (0 ≤ r.toInt ∧ r.toInt ≤ 1) ∧ (∀ b, kd b ≠ 2 → kd b ≠ 204 → kd b ≠ 205 → kd b ≠ 207 → kd b ≠ 558 → kd b ≠ 559 → kd b ≠ 568 → kd b ≠ 569 → kd b ≠ 570 → kd b ≠ 571 → kd b ≠ 572 → f9 b = f b) ∧ (∀ b, kd b = 2 → fldI (f9 b) 4 = fldI (f b) 4) ∧ (∀ b, kd b = 207 → fldI (f9 b) 1 = fldI (f b) 1) ∧ (∀ b, kd b = 2 → fldR (f9 b) 0 = fldR (f b) 0) ∧ (∀ b, kd b = 2 → fldR (f9 b) 3 = fldR (f b) 3) ∧ (∀ b, kd b = 207 → fldR (f9 b) 0 = fldR (f b) 0) ∧ (∀ b, kd b = 207 → fldR (f9 b) 3 = fldR (f b) 3) ∧ (∀ b, kd b = 207 → fldR (f9 b) 11 = fldR (f b) 11) ∧ (∀ d9, fldR (f9 o0) 0 = some d9 → trel kd 207 566 568 573 204 f9 d9)) := by
  obtain ⟨dC, dI⟩ := D
  refine Met.ofW (cc := cX2_readRule) (maxL := 4) (ret := (some .boolean)) (by decide) rfl ?_
  intro p e s m args below meth c s₁ B hml hv
  obtain ⟨rfl, hP, hK, hD0, hN, hZ⟩ := hv
  have hx := B.exec
  have hb := B.bytes
  have hr := B.returns
  have hU : ∀ w ∈ wsU, w.before _ s = true := fun w h => atoms_spec (ws := wU yX2_readRule cX2_readRule 4 (some .boolean)) B.pre w (List.mem_cons_of_mem _ h)
  have hown : s.vm.findClass RX2 = some m.cls := findClass_of_methodNamed B.named
  have hlocks := B.notSynchronized
  have hD := pl_in hD0
  have hS : va_S (fun q => q ∈ L) s.heap s.heap [] := va_S.rf
  have hl := lv_entry ([.ref o0, .int p1]) (n := 4) (Nat.le_of_ble_eq_true rfl)
  rw [lg_entry_eq]
  generalize (lg_sl ([.ref o0, .int p1]) ++ List.replicate (4 - (lg_sl ([.ref o0, .int p1])).length) Slot.unset).toArray = ls at hl ⊢
  have hl : lv_has ls 4 [(0, .ref o0), (1, .int p1)] := hl
  have bp1 : ((-2147483648) ≤ p1.toInt ∧ p1.toInt ≤ 2147483647) := ⟨i32_lo _, i32_hi _⟩
  have hfr0 : ∀ b, kd b ≠ 2 → kd b ≠ 204 → kd b ≠ 205 → kd b ≠ 207 → kd b ≠ 558 → kd b ≠ 559 → kd b ≠ 568 → kd b ≠ 569 → kd b ≠ 570 → kd b ≠ 571 → kd b ≠ 572 → f b = f b := fun _ _ _ _ _ _ _ _ _ _ _ _ => rfl
  have hfr2_4 : ∀ b, kd b = 2 → fldI (f b) 4 = fldI (f b) 4 := fun _ _ => rfl
  have hfr207_1 : ∀ b, kd b = 207 → fldI (f b) 1 = fldI (f b) 1 := fun _ _ => rfl
  have hrr2_0 : ∀ b, kd b = 2 → fldR (f b) 0 = fldR (f b) 0 := fun _ _ => rfl
  have hrr2_3 : ∀ b, kd b = 2 → fldR (f b) 3 = fldR (f b) 3 := fun _ _ => rfl
  have hrr207_0 : ∀ b, kd b = 207 → fldR (f b) 0 = fldR (f b) 0 := fun _ _ => rfl
  have hrr207_3 : ∀ b, kd b = 207 → fldR (f b) 3 = fldR (f b) 3 := fun _ _ => rfl
  have hrr207_11 : ∀ b, kd b = 207 → fldR (f b) 11 = fldR (f b) 11 := fun _ _ => rfl
  obtain ⟨a_2, v_3, v_4, a_5, v_6, v_7, v_8, v_9, v_10, v_11, hfo_1, ⟨ma_2, ka_2⟩, ⟨ma_5, ka_5⟩, bv_6, bv_7, bv_8, bv_9, bv_10⟩ := un_2 (hG _ mo0) ko0
  have bv_3 : ((-2147483648) ≤ v_3.toInt ∧ v_3.toInt ≤ 2147483647) := ⟨i32_lo _, i32_hi _⟩
  have bv_4 : ((-2147483648) ≤ v_4.toInt ∧ v_4.toInt ≤ 2147483647) := ⟨i32_lo _, i32_hi _⟩
  have bv_11 : ((-2147483648) ≤ v_11.toInt ∧ v_11.toInt ≤ 2147483647) := ⟨i32_lo _, i32_hi _⟩
  have hT0 := hxtr0 a_2 (by rw [hfo_1]; rfl)
  refine lv_aload_n hx hb dX2_readRule_0 rfl (lv_at hl 0 rfl) ?_
  refine tk_getP (D := (dC, dI)) (ci := 2) (v := .ref a_2) (C := RX2) (T := TX2) (N := 10) hx hb hU inlX2 hown hK hP mo0 hfo_1 rfl 0 (by decide) (hU _ wd_150) (fun _ h9 => h9) rfl dX2_readRule_1 ?_
  obtain ⟨a_13, v_14, a_15, a_16, a_17, a_18, v_19, a_20, a_21, a_22, a_23, a_24, v_25, a_26, a_27, a_28, hfo_12, ⟨ma_13, ka_13⟩, bv_14, ⟨ma_15, ka_15⟩, ⟨ma_16, ka_16⟩, ⟨ma_17, ka_17⟩, ⟨ma_18, ka_18⟩, bv_19, ⟨ma_20, ka_20⟩, ⟨ma_21, ka_21⟩, ⟨ma_22, ka_22⟩, ⟨ma_23, ka_23⟩, ⟨ma_24, ka_24⟩, bv_25, ⟨ma_26, ka_26⟩, ⟨ma_27, ka_27⟩, ⟨ma_28, ka_28⟩⟩ := un_207 (hG _ ma_2) ka_2
  refine tk_getP (D := (dC, dI)) (ci := 7) (v := .int v_25) (C := RX7) (T := TX7) (N := 16) hx hb hU inlX7 hown hK hP ma_2 hfo_12 rfl 12 (by decide) (hU _ wd_400) (fun _ h9 => h9) rfl dX2_readRule_4 ?_
  refine lv_bipush (v := 8) hx hb dX2_readRule_7 (by decide) ?_
  refine lv_icmp_ne (tgt := 19) hx hb dX2_readRule_9 (by decide) (fun c_29 => ?_) (fun c_29 => ?_)
  · skip
    rw [← Int32.toInt_inj, ti_8] at c_29
    refine lv_aload_n hx hb dX2_readRule_19 rfl (lv_at hl 0 rfl) ?_
    refine tk_ViP (As := []) (rest := []) (n := 0) hx hb hml hown hU hN hZ (s_X2_readPair_k2 l (dC, dI) cI cL cZ cR cG cH Z kd L f hG o0 mo0 ko0 (fun d9 h9 => by rw [hfo_1] at h9; obtain rfl := Option.some.inj h9; exact hT0)) wd_369 wd_370 wd_371 wd_33 wd_372 (by decide +kernel) ⟨Nat.le_of_ble_eq_true rfl, Nat.le_of_ble_eq_true rfl⟩ hK hP hD hS mo0 hfo_1 2 rfl rfl rfl hl.1 rfl (Nat.le_of_ble_eq_true rfl) dX2_readRule_20 ⟨Nat.le_of_ble_eq_true rfl, Nat.le_of_ble_eq_true rfl⟩ (fun x_30 f_31 H locs hw hP hD hS => ?_)
    obtain ⟨hG, bx_30, hkc_32, hfc_33, hfc_34, hfc_35, hrc_36, hrc_37, hrc_38, hrc_39, hrc_40, hpost_41, hxp_42, hTc_43⟩ := hw
    have hfr0 : ∀ b, kd b ≠ 2 → kd b ≠ 204 → kd b ≠ 205 → kd b ≠ 207 → kd b ≠ 558 → kd b ≠ 559 → kd b ≠ 568 → kd b ≠ 569 → kd b ≠ 570 → kd b ≠ 571 → kd b ≠ 572 → f_31 b = f b := fun b q2 q204 q205 q207 q558 q559 q568 q569 q570 q571 q572 => (hkc_32 b q2 q207 q568 q569 q570 q571 q572).trans (hfr0 b q2 q204 q205 q207 q558 q559 q568 q569 q570 q571 q572)
    have hfr2_4 : ∀ b, kd b = 2 → fldI (f_31 b) 4 = fldI (f b) 4 := fun b kb => (hfc_33 b kb).trans (hfr2_4 b kb)
    have hfr207_1 : ∀ b, kd b = 207 → fldI (f_31 b) 1 = fldI (f b) 1 := fun b kb => (hfc_34 b kb).trans (hfr207_1 b kb)
    have hrr2_0 : ∀ b, kd b = 2 → fldR (f_31 b) 0 = fldR (f b) 0 := fun b kb => (hrc_36 b kb).trans (hrr2_0 b kb)
    have hrr2_3 : ∀ b, kd b = 2 → fldR (f_31 b) 3 = fldR (f b) 3 := fun b kb => (hrc_37 b kb).trans (hrr2_3 b kb)
    have hrr207_0 : ∀ b, kd b = 207 → fldR (f_31 b) 0 = fldR (f b) 0 := fun b kb => (hrc_38 b kb).trans (hrr207_0 b kb)
    have hrr207_3 : ∀ b, kd b = 207 → fldR (f_31 b) 3 = fldR (f b) 3 := fun b kb => (hrc_39 b kb).trans (hrr207_3 b kb)
    have hrr207_11 : ∀ b, kd b = 207 → fldR (f_31 b) 11 = fldR (f b) 11 := fun b kb => (hrc_40 b kb).trans (hrr207_11 b kb)
    obtain ⟨a_46, v_47, v_48, a_49, v_50, v_51, v_52, v_53, v_54, v_55, hfo_45, ⟨ma_46, ka_46⟩, ⟨ma_49, ka_49⟩, bv_50, bv_51, bv_52, bv_53, bv_54⟩ := un_2 (hG _ mo0) ko0
    have bv_47 : ((-2147483648) ≤ v_47.toInt ∧ v_47.toInt ≤ 2147483647) := ⟨i32_lo _, i32_hi _⟩
    have bv_48 : ((-2147483648) ≤ v_48.toInt ∧ v_48.toInt ≤ 2147483647) := ⟨i32_lo _, i32_hi _⟩
    have bv_55 : ((-2147483648) ≤ v_55.toInt ∧ v_55.toInt ≤ 2147483647) := ⟨i32_lo _, i32_hi _⟩
    obtain rfl : a_2 = a_46 := by have hk9 := hrr2_0 o0 ko0; rw [hfo_45, hfo_1] at hk9; exact (Option.some.inj hk9).symm
    obtain rfl : a_5 = a_49 := by have hk9 := hrr2_3 o0 ko0; rw [hfo_45, hfo_1] at hk9; exact (Option.some.inj hk9).symm
    obtain rfl : v_6 = v_50 := by have hk9 := hfc_33 o0 ko0; rw [hfo_45, hfo_1] at hk9; exact (Option.some.inj hk9).symm
    have hqhpost_41 := hpost_41 v_7 v_51 (by rw [hfo_1]; rfl) (by rw [hfo_45]; rfl)
    obtain ⟨a_57, v_58, a_59, a_60, a_61, a_62, v_63, a_64, a_65, a_66, a_67, a_68, v_69, a_70, a_71, a_72, hfo_56, ⟨ma_57, ka_57⟩, bv_58, ⟨ma_59, ka_59⟩, ⟨ma_60, ka_60⟩, ⟨ma_61, ka_61⟩, ⟨ma_62, ka_62⟩, bv_63, ⟨ma_64, ka_64⟩, ⟨ma_65, ka_65⟩, ⟨ma_66, ka_66⟩, ⟨ma_67, ka_67⟩, ⟨ma_68, ka_68⟩, bv_69, ⟨ma_70, ka_70⟩, ⟨ma_71, ka_71⟩, ⟨ma_72, ka_72⟩⟩ := un_207 (hG _ ma_2) ka_2
    obtain rfl : a_13 = a_57 := by have hk9 := hrr207_0 a_2 ka_2; rw [hfo_56, hfo_12] at hk9; exact (Option.some.inj hk9).symm
    obtain rfl : a_16 = a_60 := by have hk9 := hrr207_3 a_2 ka_2; rw [hfo_56, hfo_12] at hk9; exact (Option.some.inj hk9).symm
    obtain rfl : a_24 = a_68 := by have hk9 := hrr207_11 a_2 ka_2; rw [hfo_56, hfo_12] at hk9; exact (Option.some.inj hk9).symm
    obtain rfl : v_14 = v_58 := by have hk9 := hfc_34 a_2 ka_2; rw [hfo_56, hfo_12] at hk9; exact (Option.some.inj hk9).symm
    obtain rfl : v_25 = v_69 := by have hk9 := hfc_35 a_2 ka_2; rw [hfo_56, hfo_12] at hk9; exact (Option.some.inj hk9).symm
    have hT_73 := hTc_43 a_2 (by rw [hfo_45]; rfl)
    have hrsx_30 := hxp_42 a_2 v_14 v_54 (by rw [hfo_45]; rfl) (by rw [hfo_56]; rfl) (by rw [hfo_45]; rfl)
    refine lv_if_ne (tgt := 28) hx hb dX2_readRule_23 (by decide) (fun c_74 => ?_) (fun c_74 => ?_)
    · skip
      rw [← Int32.toInt_inj, ti_0] at c_74
      refine lv_aload_n hx hb dX2_readRule_28 rfl (lv_at hl 0 rfl) ?_
      refine tk_getP (D := (dC, dI)) (ci := 2) (v := .ref a_2) (C := RX2) (T := TX2) (N := 10) hx hb hU inlX2 hown hK hP mo0 hfo_45 rfl 0 (by decide) (hU _ wd_150) (fun _ h9 => h9) rfl dX2_readRule_29 ?_
      refine tk_getP (D := (dC, dI)) (ci := 7) (v := .ref a_24) (C := RX7) (T := TX7) (N := 16) hx hb hU inlX7 hown hK hP ma_2 hfo_56 rfl 11 (by decide) (hU _ wd_401) (fun _ h9 => h9) rfl dX2_readRule_32 ?_
      refine lv_aload_n hx hb dX2_readRule_35 rfl (lv_at hl 0 rfl) ?_
      refine tk_getP (D := (dC, dI)) (ci := 2) (v := .ref a_2) (C := RX2) (T := TX2) (N := 10) hx hb hU inlX2 hown hK hP mo0 hfo_45 rfl 0 (by decide) (hU _ wd_150) (fun _ h9 => h9) rfl dX2_readRule_36 ?_
      refine tk_getP (D := (dC, dI)) (ci := 7) (v := .int v_25) (C := RX7) (T := TX7) (N := 16) hx hb hU inlX7 hown hK hP ma_2 hfo_56 rfl 12 (by decide) (hU _ wd_400) (fun _ h9 => h9) rfl dX2_readRule_39 ?_
      obtain ⟨g_76, hfo_75, hbg_76⟩ := un_573 (hG _ ma_24) ka_24
      obtain ⟨a_77, hga_77, ma_77, ka_77⟩ := hbg_76 (Int32.toNatClampNeg v_25) (in_lt (vp_in_iff.mpr (by constructor <;> omega)))
      refine tk_aldP hx hb hK hP 3 ma_24 hfo_75 rfl (vp_in_iff.mpr (by constructor <;> omega)) hga_77 dX2_readRule_42 ?_
      refine lv_astore_n (lv' := [(2, .ref a_77), (0, .ref o0), (1, .int p1)]) hx hb dX2_readRule_43 rfl hl (by decide) rfl (fun ls hl => ?_)
      refine lv_aload_n hx hb dX2_readRule_44 rfl (lv_at hl 0 rfl) ?_
      refine lv_aload_n hx hb dX2_readRule_45 rfl (lv_at hl 1 rfl) ?_
      refine tk_getP (D := (dC, dI)) (ci := 2) (v := .int v_53) (C := RX2) (T := TX2) (N := 10) hx hb hU inlX2 hown hK hP mo0 hfo_45 rfl 7 (by decide) (hU _ wd_374) (fun _ h9 => h9) rfl dX2_readRule_46 ?_
      refine lv_aload_n hx hb dX2_readRule_49 rfl (lv_at hl 1 rfl) ?_
      refine tk_getP (D := (dC, dI)) (ci := 2) (v := .int v_54) (C := RX2) (T := TX2) (N := 10) hx hb hU inlX2 hown hK hP mo0 hfo_45 rfl 8 (by decide) (hU _ wd_375) (fun _ h9 => h9) rfl dX2_readRule_50 ?_
      obtain ⟨v_79, v_80, v_81, v_82, a_83, a_84, a_85, a_86, v_87, v_88, v_89, hfo_78, bv_79, bv_80, bv_81, bv_82, ⟨ma_83, ka_83⟩, ⟨ma_84, ka_84⟩, ⟨ma_85, ka_85⟩, ⟨ma_86, ka_86⟩⟩ := un_204 (hG _ ma_77) ka_77
      have bv_87 : ((-2147483648) ≤ v_87.toInt ∧ v_87.toInt ≤ 2147483647) := ⟨i32_lo _, i32_hi _⟩
      have bv_88 : ((-2147483648) ≤ v_88.toInt ∧ v_88.toInt ≤ 2147483647) := ⟨i32_lo _, i32_hi _⟩
      have bv_89 : ((-2147483648) ≤ v_89.toInt ∧ v_89.toInt ≤ 2147483647) := ⟨i32_lo _, i32_hi _⟩
      refine tk_VvP (As := [.int v_53, .int v_54]) (rest := []) (n := 2) hx hb hml hown hU hN hZ (s_X4_clear_k204_t l (dC, dI) cI cL cZ cR cG cH Z kd L f_31 hG a_77 ma_77 ka_77 v_53 (by constructor <;> omega) v_54 (by constructor <;> omega)) wd_403 wd_404 wd_405 wd_90 wd_406 (by decide +kernel) ⟨Nat.le_of_ble_eq_true rfl, Nat.le_of_ble_eq_true rfl⟩ hK hP hD hS ma_77 hfo_78 4 rfl rfl rfl hl.1 rfl (Nat.le_of_ble_eq_true rfl) dX2_readRule_53 ⟨Nat.le_of_ble_eq_true rfl, Nat.le_of_ble_eq_true rfl⟩ (fun f_91 H locs hw hP hD hS => ?_)
      obtain ⟨hG, hkc_92, hac_93, hpost_94⟩ := hw
      have hfo_96 : f_91 o0 = .inr (2, [.ref a_2, .int v_47, .int v_48, .ref a_5, .int v_6, .int v_51, .int v_52, .int v_53, .int v_54, .int v_55]) := by rw [hkc_92 o0 (by rw [ko0]; decide) (by rw [ko0]; decide) (by rw [ko0]; decide) (by rw [ko0]; decide)]; exact hfo_45
      have hfo_97 : f_91 a_2 = .inr (7, [.ref a_13, .int v_14, .ref a_59, .ref a_16, .ref a_61, .ref a_62, .int v_63, .ref a_64, .ref a_65, .ref a_66, .ref a_67, .ref a_24, .int v_25, .ref a_70, .ref a_71, .ref a_72]) := by rw [hkc_92 a_2 (by rw [ka_2]; decide) (by rw [ka_2]; decide) (by rw [ka_2]; decide) (by rw [ka_2]; decide)]; exact hfo_56
      have hfo_98 : f_91 a_24 = .inl (cR, 8, .inr (.inr (.inr (.inr g_76)))) := by rw [hkc_92 a_24 (by rw [ka_24]; decide) (by rw [ka_24]; decide) (by rw [ka_24]; decide) (by rw [ka_24]; decide)]; exact hfo_75
      have hfr0 : ∀ b, kd b ≠ 2 → kd b ≠ 204 → kd b ≠ 205 → kd b ≠ 207 → kd b ≠ 558 → kd b ≠ 559 → kd b ≠ 568 → kd b ≠ 569 → kd b ≠ 570 → kd b ≠ 571 → kd b ≠ 572 → f_91 b = f b := fun b q2 q204 q205 q207 q558 q559 q568 q569 q570 q571 q572 => (hkc_92 b q204 q205 q558 q559).trans (hfr0 b q2 q204 q205 q207 q558 q559 q568 q569 q570 q571 q572)
      have hfr2_4 : ∀ b, kd b = 2 → fldI (f_91 b) 4 = fldI (f b) 4 := fun b kb => (congrArg (fun x => fldI x 4) (hkc_92 b (by rw [kb]; decide) (by rw [kb]; decide) (by rw [kb]; decide) (by rw [kb]; decide))).trans (hfr2_4 b kb)
      have hfr207_1 : ∀ b, kd b = 207 → fldI (f_91 b) 1 = fldI (f b) 1 := fun b kb => (congrArg (fun x => fldI x 1) (hkc_92 b (by rw [kb]; decide) (by rw [kb]; decide) (by rw [kb]; decide) (by rw [kb]; decide))).trans (hfr207_1 b kb)
      have hrr2_0 : ∀ b, kd b = 2 → fldR (f_91 b) 0 = fldR (f b) 0 := fun b kb => (congrArg (fun x => fldR x 0) (hkc_92 b (by rw [kb]; decide) (by rw [kb]; decide) (by rw [kb]; decide) (by rw [kb]; decide))).trans (hrr2_0 b kb)
      have hrr2_3 : ∀ b, kd b = 2 → fldR (f_91 b) 3 = fldR (f b) 3 := fun b kb => (congrArg (fun x => fldR x 3) (hkc_92 b (by rw [kb]; decide) (by rw [kb]; decide) (by rw [kb]; decide) (by rw [kb]; decide))).trans (hrr2_3 b kb)
      have hrr207_0 : ∀ b, kd b = 207 → fldR (f_91 b) 0 = fldR (f b) 0 := fun b kb => (congrArg (fun x => fldR x 0) (hkc_92 b (by rw [kb]; decide) (by rw [kb]; decide) (by rw [kb]; decide) (by rw [kb]; decide))).trans (hrr207_0 b kb)
      have hrr207_3 : ∀ b, kd b = 207 → fldR (f_91 b) 3 = fldR (f b) 3 := fun b kb => (congrArg (fun x => fldR x 3) (hkc_92 b (by rw [kb]; decide) (by rw [kb]; decide) (by rw [kb]; decide) (by rw [kb]; decide))).trans (hrr207_3 b kb)
      have hrr207_11 : ∀ b, kd b = 207 → fldR (f_91 b) 11 = fldR (f b) 11 := fun b kb => (congrArg (fun x => fldR x 11) (hkc_92 b (by rw [kb]; decide) (by rw [kb]; decide) (by rw [kb]; decide) (by rw [kb]; decide))).trans (hrr207_11 b kb)
      obtain ⟨v_100, v_101, v_102, v_103, a_104, a_105, a_106, a_107, v_108, v_109, v_110, hfo_99, bv_100, bv_101, bv_102, bv_103, ⟨ma_104, ka_104⟩, ⟨ma_105, ka_105⟩, ⟨ma_106, ka_106⟩, ⟨ma_107, ka_107⟩⟩ := un_204 (hG _ ma_77) ka_77
      have bv_108 : ((-2147483648) ≤ v_108.toInt ∧ v_108.toInt ≤ 2147483647) := ⟨i32_lo _, i32_hi _⟩
      have bv_109 : ((-2147483648) ≤ v_109.toInt ∧ v_109.toInt ≤ 2147483647) := ⟨i32_lo _, i32_hi _⟩
      have bv_110 : ((-2147483648) ≤ v_110.toInt ∧ v_110.toInt ≤ 2147483647) := ⟨i32_lo _, i32_hi _⟩
      have hqhpost_94 := hpost_94 v_80 v_101 v_82 v_103 (by rw [hfo_78]; rfl) (by rw [hfo_78]; rfl) (by rw [hfo_99]; rfl) (by rw [hfo_99]; rfl)
      have hTt_111 : trel kd 207 566 568 573 204 f_91 a_2 := hT_73.rule (o := a_77) (w := v_101) (n := v_14) (fun b q => hkc_92 b (by rw [q]; decide) (by rw [q]; decide) (by rw [q]; decide) (by rw [q]; decide)) (fun b q => hkc_92 b (by rw [q]; decide) (by rw [q]; decide) (by rw [q]; decide) (by rw [q]; decide)) (fun b q => hkc_92 b (by rw [q]; decide) (by rw [q]; decide) (by rw [q]; decide) (by rw [q]; decide)) (fun b q => hkc_92 b (by rw [q]; decide) (by rw [q]; decide) (by rw [q]; decide) (by rw [q]; decide)) hac_93 (by rw [hfo_56]; rfl) (by rw [hfo_99]; rfl) (by omega)
      refine lv_aload_n hx hb dX2_readRule_56 rfl (lv_at hl 1 rfl) ?_
      refine lv_aload_n hx hb dX2_readRule_57 rfl (lv_at hl 0 rfl) ?_
      refine tk_ViP (As := [.ref a_77]) (rest := []) (n := 1) hx hb hml hown hU hN hZ (s_X2_readOp_k2_k204 l (dC, dI) cI cL cZ cR cG cH Z kd L f_91 hG o0 mo0 ko0 a_77 ma_77 ka_77) wd_419 wd_420 wd_421 wd_33 wd_422 (by decide +kernel) ⟨Nat.le_of_ble_eq_true rfl, Nat.le_of_ble_eq_true rfl⟩ hK hP hD hS mo0 hfo_96 2 rfl rfl rfl hl.1 rfl (Nat.le_of_ble_eq_true rfl) dX2_readRule_58 ⟨Nat.le_of_ble_eq_true rfl, Nat.le_of_ble_eq_true rfl⟩ (fun x_112 f_113 H locs hw hP hD hS => ?_)
      obtain ⟨hG, bx_112, hkc_114, hfc_115, hfc_116, hfc_117, hfc_118, hfc_119, hrc_120, hrc_121⟩ := hw
      have hfo_123 : f_113 a_2 = .inr (7, [.ref a_13, .int v_14, .ref a_59, .ref a_16, .ref a_61, .ref a_62, .int v_63, .ref a_64, .ref a_65, .ref a_66, .ref a_67, .ref a_24, .int v_25, .ref a_70, .ref a_71, .ref a_72]) := by rw [hkc_114 a_2 (by rw [ka_2]; decide) (by rw [ka_2]; decide)]; exact hfo_97
      have hfo_124 : f_113 a_24 = .inl (cR, 8, .inr (.inr (.inr (.inr g_76)))) := by rw [hkc_114 a_24 (by rw [ka_24]; decide) (by rw [ka_24]; decide)]; exact hfo_98
      have hfr0 : ∀ b, kd b ≠ 2 → kd b ≠ 204 → kd b ≠ 205 → kd b ≠ 207 → kd b ≠ 558 → kd b ≠ 559 → kd b ≠ 568 → kd b ≠ 569 → kd b ≠ 570 → kd b ≠ 571 → kd b ≠ 572 → f_113 b = f b := fun b q2 q204 q205 q207 q558 q559 q568 q569 q570 q571 q572 => (hkc_114 b q2 q204).trans (hfr0 b q2 q204 q205 q207 q558 q559 q568 q569 q570 q571 q572)
      have hfr2_4 : ∀ b, kd b = 2 → fldI (f_113 b) 4 = fldI (f b) 4 := fun b kb => (hfc_115 b kb).trans (hfr2_4 b kb)
      have hfr207_1 : ∀ b, kd b = 207 → fldI (f_113 b) 1 = fldI (f b) 1 := fun b kb => (congrArg (fun x => fldI x 1) (hkc_114 b (by rw [kb]; decide) (by rw [kb]; decide))).trans (hfr207_1 b kb)
      have hrr2_0 : ∀ b, kd b = 2 → fldR (f_113 b) 0 = fldR (f b) 0 := fun b kb => (hrc_120 b kb).trans (hrr2_0 b kb)
      have hrr2_3 : ∀ b, kd b = 2 → fldR (f_113 b) 3 = fldR (f b) 3 := fun b kb => (hrc_121 b kb).trans (hrr2_3 b kb)
      have hrr207_0 : ∀ b, kd b = 207 → fldR (f_113 b) 0 = fldR (f b) 0 := fun b kb => (congrArg (fun x => fldR x 0) (hkc_114 b (by rw [kb]; decide) (by rw [kb]; decide))).trans (hrr207_0 b kb)
      have hrr207_3 : ∀ b, kd b = 207 → fldR (f_113 b) 3 = fldR (f b) 3 := fun b kb => (congrArg (fun x => fldR x 3) (hkc_114 b (by rw [kb]; decide) (by rw [kb]; decide))).trans (hrr207_3 b kb)
      have hrr207_11 : ∀ b, kd b = 207 → fldR (f_113 b) 11 = fldR (f b) 11 := fun b kb => (congrArg (fun x => fldR x 11) (hkc_114 b (by rw [kb]; decide) (by rw [kb]; decide))).trans (hrr207_11 b kb)
      have hTt_111 : trel kd 207 566 568 573 204 f_113 a_2 := hTt_111.keep (fun b q => hkc_114 b (by rw [q]; decide) (by rw [q]; decide)) (fun b q => hkc_114 b (by rw [q]; decide) (by rw [q]; decide)) (fun b q => hkc_114 b (by rw [q]; decide) (by rw [q]; decide)) (fun b q => hkc_114 b (by rw [q]; decide) (by rw [q]; decide)) (fun b q => hfc_118 b q)
      obtain ⟨a_126, v_127, v_128, a_129, v_130, v_131, v_132, v_133, v_134, v_135, hfo_125, ⟨ma_126, ka_126⟩, ⟨ma_129, ka_129⟩, bv_130, bv_131, bv_132, bv_133, bv_134⟩ := un_2 (hG _ mo0) ko0
      have bv_127 : ((-2147483648) ≤ v_127.toInt ∧ v_127.toInt ≤ 2147483647) := ⟨i32_lo _, i32_hi _⟩
      have bv_128 : ((-2147483648) ≤ v_128.toInt ∧ v_128.toInt ≤ 2147483647) := ⟨i32_lo _, i32_hi _⟩
      have bv_135 : ((-2147483648) ≤ v_135.toInt ∧ v_135.toInt ≤ 2147483647) := ⟨i32_lo _, i32_hi _⟩
      obtain rfl : a_2 = a_126 := by have hk9 := hrr2_0 o0 ko0; rw [hfo_125, hfo_1] at hk9; exact (Option.some.inj hk9).symm
      obtain rfl : a_5 = a_129 := by have hk9 := hrr2_3 o0 ko0; rw [hfo_125, hfo_1] at hk9; exact (Option.some.inj hk9).symm
      obtain rfl : v_6 = v_130 := by have hk9 := hfc_115 o0 ko0; rw [hfo_125, hfo_96] at hk9; exact (Option.some.inj hk9).symm
      obtain rfl : v_53 = v_133 := by have hk9 := hfc_116 o0 ko0; rw [hfo_125, hfo_96] at hk9; exact (Option.some.inj hk9).symm
      obtain rfl : v_54 = v_134 := by have hk9 := hfc_117 o0 ko0; rw [hfo_125, hfo_96] at hk9; exact (Option.some.inj hk9).symm
      obtain ⟨v_137, v_138, v_139, v_140, a_141, a_142, a_143, a_144, v_145, v_146, v_147, hfo_136, bv_137, bv_138, bv_139, bv_140, ⟨ma_141, ka_141⟩, ⟨ma_142, ka_142⟩, ⟨ma_143, ka_143⟩, ⟨ma_144, ka_144⟩⟩ := un_204 (hG _ ma_77) ka_77
      have bv_145 : ((-2147483648) ≤ v_145.toInt ∧ v_145.toInt ≤ 2147483647) := ⟨i32_lo _, i32_hi _⟩
      have bv_146 : ((-2147483648) ≤ v_146.toInt ∧ v_146.toInt ≤ 2147483647) := ⟨i32_lo _, i32_hi _⟩
      have bv_147 : ((-2147483648) ≤ v_147.toInt ∧ v_147.toInt ≤ 2147483647) := ⟨i32_lo _, i32_hi _⟩
      obtain rfl : v_101 = v_138 := by have hk9 := hfc_118 a_77 ka_77; rw [hfo_136, hfo_99] at hk9; exact (Option.some.inj hk9).symm
      obtain rfl : v_103 = v_140 := by have hk9 := hfc_119 a_77 ka_77; rw [hfo_136, hfo_99] at hk9; exact (Option.some.inj hk9).symm
      refine lv_if_ne (tgt := 66) hx hb dX2_readRule_61 (by decide) (fun c_148 => ?_) (fun c_148 => ?_)
      · skip
        rw [← Int32.toInt_inj, ti_0] at c_148
        refine lv_iconst (v := 0) hx hb dX2_readRule_66 (by decide) ?_
        refine lv_istore_n (lv' := [(3, .int 0), (2, .ref a_77), (0, .ref o0), (1, .int p1)]) hx hb dX2_readRule_67 rfl hl (by decide) rfl (fun ls hl => ?_)
        have hloop_193 : ∀ (n : Nat), ∀ (y_194 : Int32), (0 ≤ y_194.toInt ∧ y_194.toInt ≤ 4) → ∀ (f_196 : Nat → va_E), GI (okc cI cL cZ cR cG cH L kd) kd L f_196 → ∀ (H : Heap) (locs : List Loc), va_P (dC, dI) vwCl (va_pl L f_196) H → va_S (fun q => q ∈ L) s.heap H locs → va_D (fun q => q ∈ L) (va_pl L f_196) → (∀ b, kd b ≠ 2 → kd b ≠ 204 → kd b ≠ 205 → kd b ≠ 207 → kd b ≠ 558 → kd b ≠ 559 → kd b ≠ 568 → kd b ≠ 569 → kd b ≠ 570 → kd b ≠ 571 → kd b ≠ 572 → f_196 b = f b) → (∀ b, kd b = 2 → fldI (f_196 b) 4 = fldI (f b) 4) → (∀ b, kd b = 207 → fldI (f_196 b) 1 = fldI (f b) 1) → (∀ b, kd b = 2 → fldR (f_196 b) 0 = fldR (f b) 0) → (∀ b, kd b = 2 → fldR (f_196 b) 3 = fldR (f b) 3) → (∀ b, kd b = 207 → fldR (f_196 b) 0 = fldR (f b) 0) → (∀ b, kd b = 207 → fldR (f_196 b) 3 = fldR (f b) 3) → (∀ b, kd b = 207 → fldR (f_196 b) 11 = fldR (f b) 11) → (f_196 a_2 = .inr (7, [.ref a_13, .int v_14, .ref a_59, .ref a_16, .ref a_61, .ref a_62, .int v_63, .ref a_64, .ref a_65, .ref a_66, .ref a_67, .ref a_24, .int v_25, .ref a_70, .ref a_71, .ref a_72])) → (f_196 a_24 = .inl (cR, 8, .inr (.inr (.inr (.inr g_76))))) → trel kd 207 566 568 573 204 f_196 a_2 → ∀ (whloop_193_2_3 : Int32), fldI (f_196 a_77) 3 = some whloop_193_2_3 → ∀ (whloop_193_2_1 : Int32), fldI (f_196 a_77) 1 = some whloop_193_2_1 → (whloop_193_2_1.toInt ≤ v_14.toInt) → (0 ≤ whloop_193_2_3.toInt ∧ whloop_193_2_3.toInt ≤ 2) → (0 ≤ whloop_193_2_1.toInt ∧ whloop_193_2_1.toInt ≤ 8) → 4 - y_194.toInt < (n : Int) → ∀ (ls : Array Slot), lv_has ls 4 [(3, .int y_194), (2, .ref a_77), (0, .ref o0), (1, .int p1)] → W p l e (headSpec (wU yX2_readRule cX2_readRule 4 (some .boolean)) { frames := 6, cells := 0, slots := 0, locals := 129 }).room s m [.ref o0, .int p1].toArray below meth c H locs 0 0 (MQ below (va_Qi (fun (r : Int32) (f9 : Nat → va_E) => GI (okc cI cL cZ cR cG cH L kd) kd L f9 ∧ (0 ≤ r.toInt ∧ r.toInt ≤ 1) ∧ (∀ b, kd b ≠ 2 → kd b ≠ 204 → kd b ≠ 205 → kd b ≠ 207 → kd b ≠ 558 → kd b ≠ 559 → kd b ≠ 568 → kd b ≠ 569 → kd b ≠ 570 → kd b ≠ 571 → kd b ≠ 572 → f9 b = f b) ∧ (∀ b, kd b = 2 → fldI (f9 b) 4 = fldI (f b) 4) ∧ (∀ b, kd b = 207 → fldI (f9 b) 1 = fldI (f b) 1) ∧ (∀ b, kd b = 2 → fldR (f9 b) 0 = fldR (f b) 0) ∧ (∀ b, kd b = 2 → fldR (f9 b) 3 = fldR (f b) 3) ∧ (∀ b, kd b = 207 → fldR (f9 b) 0 = fldR (f b) 0) ∧ (∀ b, kd b = 207 → fldR (f9 b) 3 = fldR (f b) 3) ∧ (∀ b, kd b = 207 → fldR (f9 b) 11 = fldR (f b) 11) ∧ (∀ d9, fldR (f9 o0) 0 = some d9 → trel kd 207 566 568 573 204 f9 d9)) (qP (dC, dI) cI cL cZ cR cG cH L) (fun q => q ∈ L)) [.ref o0, .int p1].toArray s 0 0 (fun q => q ∈ L)) (F0 m 68 ls []) := by
          intro n
          induction n with
          | zero => intro y_194 by_194 f_196 hG H locs hP hS hD hfr0 hfr2_4 hfr207_1 hrr2_0 hrr2_3 hrr207_0 hrr207_3 hrr207_11 hfo_197 hfo_198 hTt_111 whloop_193_2_3 hghloop_193_2_3 whloop_193_2_1 hghloop_193_2_1 hrelhloop_193_0 hrelhloop_193_1 hrelhloop_193_2 hmuhloop_193 ls hl; exfalso; omega
          | succ n ih_hloop_193 =>
            intro y_194 by_194 f_196 hG H locs hP hS hD hfr0 hfr2_4 hfr207_1 hrr2_0 hrr2_3 hrr207_0 hrr207_3 hrr207_11 hfo_197 hfo_198 hTt_111 whloop_193_2_3 hghloop_193_2_3 whloop_193_2_1 hghloop_193_2_1 hrelhloop_193_0 hrelhloop_193_1 hrelhloop_193_2 hmuhloop_193 ls hl
            obtain ⟨v_200, v_201, v_202, v_203, a_204, a_205, a_206, a_207, v_208, v_209, v_210, hfo_199, bv_200, bv_201, bv_202, bv_203, ⟨ma_204, ka_204⟩, ⟨ma_205, ka_205⟩, ⟨ma_206, ka_206⟩, ⟨ma_207, ka_207⟩⟩ := un_204 (hG _ ma_77) ka_77
            have bv_208 : ((-2147483648) ≤ v_208.toInt ∧ v_208.toInt ≤ 2147483647) := ⟨i32_lo _, i32_hi _⟩
            have bv_209 : ((-2147483648) ≤ v_209.toInt ∧ v_209.toInt ≤ 2147483647) := ⟨i32_lo _, i32_hi _⟩
            have bv_210 : ((-2147483648) ≤ v_210.toInt ∧ v_210.toInt ≤ 2147483647) := ⟨i32_lo _, i32_hi _⟩
            obtain rfl : v_203 = whloop_193_2_3 := by rw [hfo_199] at hghloop_193_2_3; exact Option.some.inj hghloop_193_2_3
            obtain rfl : v_201 = whloop_193_2_1 := by rw [hfo_199] at hghloop_193_2_1; exact Option.some.inj hghloop_193_2_1
            refine lv_iload_n hx hb dX2_readRule_68 rfl (lv_at hl 0 rfl) ?_
            refine lv_iconst (v := 3) hx hb dX2_readRule_69 (by decide) ?_
            refine lv_icmp_gt (tgt := 129) hx hb dX2_readRule_70 (by decide) (fun c_211 => ?_) (fun c_211 => ?_)
            · skip
              rw [Int32.lt_iff_toInt_lt, ti_3] at c_211
              have hTq := hTt_111
              obtain ⟨g_213, hfo_212, hbg_213⟩ := un_566 (hG _ ma_13) ka_13
              obtain ⟨g_215, hfo_214, hbg_215⟩ := un_568 (hG _ ma_16) ka_16
              obtain ⟨tqn, tqp, tqc, tqs, tqa, tqr, tqg, tqh, tqq, ⟨-, -, -, -⟩, ⟨tqt1, tqt2, tqt3, tqt4, tqt5, tqt6⟩, ⟨tqw1, tqw2, tqw3⟩, tq4, tq5, tq6, tq7⟩ := hTq
              rw [hfo_197] at tqt1 tqt2 tqt3 tqt4 tqt5 tqt6
              obtain rfl := Option.some.inj tqt1
              obtain rfl := Option.some.inj tqt2
              obtain rfl := Option.some.inj tqt3
              obtain rfl := Option.some.inj tqt4
              obtain rfl := Option.some.inj tqt5
              obtain rfl := Option.some.inj tqt6
              rw [hfo_212] at tqw1
              obtain rfl := Option.some.inj tqw1
              rw [hfo_214] at tqw2
              obtain rfl := Option.some.inj tqw2
              rw [hfo_198] at tqw3
              obtain rfl := Option.some.inj tqw3
              refine lv_aload_n hx hb dX2_readRule_129 rfl (lv_at hl 2 rfl) ?_
              obtain ⟨a_217, v_218, v_219, a_220, v_221, v_222, v_223, v_224, v_225, v_226, hfo_216, ⟨ma_217, ka_217⟩, ⟨ma_220, ka_220⟩, bv_221, bv_222, bv_223, bv_224, bv_225⟩ := un_2 (hG _ mo0) ko0
              have bv_218 : ((-2147483648) ≤ v_218.toInt ∧ v_218.toInt ≤ 2147483647) := ⟨i32_lo _, i32_hi _⟩
              have bv_219 : ((-2147483648) ≤ v_219.toInt ∧ v_219.toInt ≤ 2147483647) := ⟨i32_lo _, i32_hi _⟩
              have bv_226 : ((-2147483648) ≤ v_226.toInt ∧ v_226.toInt ≤ 2147483647) := ⟨i32_lo _, i32_hi _⟩
              obtain rfl : a_2 = a_217 := by have hk9 := hrr2_0 o0 ko0; rw [hfo_216, hfo_1] at hk9; exact (Option.some.inj hk9).symm
              obtain rfl : a_5 = a_220 := by have hk9 := hrr2_3 o0 ko0; rw [hfo_216, hfo_1] at hk9; exact (Option.some.inj hk9).symm
              refine tk_getP (D := (dC, dI)) (ci := 2) (v := .ref a_2) (C := RX2) (T := TX2) (N := 10) hx hb hU inlX2 hown hK hP mo0 hfo_216 rfl 0 (by decide) (hU _ wd_150) (fun _ h9 => h9) rfl dX2_readRule_130 ?_
              refine lv_dup hx hb dX2_readRule_133 rfl ?_
              refine tk_getP (D := (dC, dI)) (ci := 7) (v := .int v_25) (C := RX7) (T := TX7) (N := 16) hx hb hU inlX7 hown hK hP ma_2 hfo_197 rfl 12 (by decide) (hU _ wd_400) (fun _ h9 => h9) rfl dX2_readRule_134 ?_
              refine lv_iconst (v := 1) hx hb dX2_readRule_137 (by decide) ?_
              refine lv_iadd hx hb dX2_readRule_138 ?_
              refine lv_topi (fun x_227 ex_227 => ?_)
              have hx_227 : x_227.toInt = v_25.toInt + 1 := by rw [ex_227, ad_I (by rw [ti_1]; omega) (by rw [ti_1]; omega), ti_1]
              have bx_227 : (1 ≤ x_227.toInt ∧ x_227.toInt ≤ 8) := by constructor <;> omega
              refine tk_putP (D := (dC, dI)) (ci := 7) (v := .int x_227) (ty := .int) (C := RX7) (T := TX7) (N := 16) hx hb hU inlX7 tyX7 tyX7_ok nmX7 hown hK hP hD hS ma_2 hfo_197 rfl 12 (by decide) (hU _ wd_400) (fun _ h9 => h9) rfl (by decide +kernel) rfl rfl (Nat.le_of_ble_eq_true rfl) dX2_readRule_139 (fun H locs hP hD hS => ?_)
              obtain ⟨f_229, ef_229⟩ : ∃ y : Nat → va_E, y = va_up f_196 a_2 (.inr (7, [.ref a_13, .int v_14, .ref a_59, .ref a_16, .ref a_61, .ref a_62, .int v_63, .ref a_64, .ref a_65, .ref a_66, .ref a_67, .ref a_24, .int x_227, .ref a_70, .ref a_71, .ref a_72])) := ⟨_, rfl⟩
              have hP : va_P (dC, dI) vwCl (va_pl L f_229) H := by rw [ef_229]; exact hP
              have hD : va_D (fun q => q ∈ L) (va_pl L f_229) := by rw [ef_229]; exact hD
              have hG : GI (okc cI cL cZ cR cG cH L kd) kd L f_229 := by rw [ef_229]; exact hG.set a_2 (mk_207 ka_2 ⟨a_13, v_14, a_59, a_16, a_61, a_62, v_63, a_64, a_65, a_66, a_67, a_24, x_227, a_70, a_71, a_72, rfl, ⟨ma_13, ka_13⟩, (by constructor <;> omega), ⟨ma_59, ka_59⟩, ⟨ma_16, ka_16⟩, ⟨ma_61, ka_61⟩, ⟨ma_62, ka_62⟩, (by constructor <;> omega), ⟨ma_64, ka_64⟩, ⟨ma_65, ka_65⟩, ⟨ma_66, ka_66⟩, ⟨ma_67, ka_67⟩, ⟨ma_24, ka_24⟩, (by constructor <;> omega), ⟨ma_70, ka_70⟩, ⟨ma_71, ka_71⟩, ⟨ma_72, ka_72⟩⟩)
              have hfo_230 : f_229 a_24 = .inl (cR, 8, .inr (.inr (.inr (.inr g_76)))) := by rw [ef_229, up_ne (kd_ne ka_2 ka_24 (by decide))]; exact hfo_198
              have hfo_231 : f_229 a_77 = .inr (4, [.int v_200, .int v_201, .int v_202, .int v_203, .ref a_204, .ref a_205, .ref a_206, .ref a_207, .int v_208, .int v_209, .int v_210]) := by rw [ef_229, up_ne (kd_ne ka_2 ka_77 (by decide))]; exact hfo_199
              have hfo_232 : f_229 a_13 = .inl (cI, 26, .inl g_213) := by rw [ef_229, up_ne (kd_ne ka_2 ka_13 (by decide))]; exact hfo_212
              have hfo_233 : f_229 a_16 = .inl (cI, 81, .inl g_215) := by rw [ef_229, up_ne (kd_ne ka_2 ka_16 (by decide))]; exact hfo_214
              have hfo_234 : f_229 o0 = .inr (2, [.ref a_2, .int v_218, .int v_219, .ref a_5, .int v_221, .int v_222, .int v_223, .int v_224, .int v_225, .int v_226]) := by rw [ef_229, up_ne (kd_ne ka_2 ko0 (by decide))]; exact hfo_216
              have hfr0 : ∀ b, kd b ≠ 2 → kd b ≠ 204 → kd b ≠ 205 → kd b ≠ 207 → kd b ≠ 558 → kd b ≠ 559 → kd b ≠ 568 → kd b ≠ 569 → kd b ≠ 570 → kd b ≠ 571 → kd b ≠ 572 → f_229 b = f b := fun b q2 q204 q205 q207 q558 q559 q568 q569 q570 q571 q572 => (congrFun ef_229 b).trans ((up_ne (fun e9 => q207 (by rw [e9]; exact ka_2))).trans (hfr0 b q2 q204 q205 q207 q558 q559 q568 q569 q570 q571 q572))
              have hfr2_4 : ∀ b, kd b = 2 → fldI (f_229 b) 4 = fldI (f b) 4 := fun b kb => (congrArg (fun x => fldI x 4) ((congrFun ef_229 b).trans (up_ne (kd_ne ka_2 kb (by decide))))).trans (hfr2_4 b kb)
              have hfr207_1 : ∀ b, kd b = 207 → fldI (f_229 b) 1 = fldI (f b) 1 := fun b kb => ((congrArg (fun x => fldI x 1) (congrFun ef_229 b)).trans (fk_up (by rw [hfo_197]; rfl) b)).trans (hfr207_1 b kb)
              have hrr2_0 : ∀ b, kd b = 2 → fldR (f_229 b) 0 = fldR (f b) 0 := fun b kb => (congrArg (fun x => fldR x 0) ((congrFun ef_229 b).trans (up_ne (kd_ne ka_2 kb (by decide))))).trans (hrr2_0 b kb)
              have hrr2_3 : ∀ b, kd b = 2 → fldR (f_229 b) 3 = fldR (f b) 3 := fun b kb => (congrArg (fun x => fldR x 3) ((congrFun ef_229 b).trans (up_ne (kd_ne ka_2 kb (by decide))))).trans (hrr2_3 b kb)
              have hrr207_0 : ∀ b, kd b = 207 → fldR (f_229 b) 0 = fldR (f b) 0 := fun b kb => ((congrArg (fun x => fldR x 0) (congrFun ef_229 b)).trans (fr_up (by rw [hfo_197]; rfl) b)).trans (hrr207_0 b kb)
              have hrr207_3 : ∀ b, kd b = 207 → fldR (f_229 b) 3 = fldR (f b) 3 := fun b kb => ((congrArg (fun x => fldR x 3) (congrFun ef_229 b)).trans (fr_up (by rw [hfo_197]; rfl) b)).trans (hrr207_3 b kb)
              have hrr207_11 : ∀ b, kd b = 207 → fldR (f_229 b) 11 = fldR (f b) 11 := fun b kb => ((congrArg (fun x => fldR x 11) (congrFun ef_229 b)).trans (fr_up (by rw [hfo_197]; rfl) b)).trans (hrr207_11 b kb)
              have hfo_235 : f_229 a_2 = .inr (7, [.ref a_13, .int v_14, .ref a_59, .ref a_16, .ref a_61, .ref a_62, .int v_63, .ref a_64, .ref a_65, .ref a_66, .ref a_67, .ref a_24, .int x_227, .ref a_70, .ref a_71, .ref a_72]) := by rw [ef_229]; exact up_self
              refine lv_iconst (v := 1) hx hb dX2_readRule_142 (by decide) ?_
              exact W.zret (v := 1) (ty := .boolean) hx hb hr rfl (fun t ht hW => ⟨⟨1, f_229, rfl, ⟨hG, (by decide), hfr0, hfr2_4, hfr207_1, hrr2_0, hrr2_3, hrr207_0, hrr207_3, hrr207_11, (fun d9 h9 => by rw [hfo_234] at h9; obtain rfl := Option.some.inj h9; exact ⟨v_14, v_63, x_227, a_13, a_16, a_24, g_213, g_215, g_76, ⟨ka_2, ka_13, ka_16, ka_24⟩, (by rw [hfo_235]; exact ⟨rfl, rfl, rfl, rfl, rfl, rfl⟩), ⟨by rw [hfo_232]; rfl, by rw [hfo_233]; rfl, by rw [hfo_230]; rfl⟩, tq4, tq5, tq6, (fun k9 hk9 => by by_cases hkc : (k9 : Int) = v_25.toInt; (· refine ⟨a_77, v_201, ?_, ka_77, ?_, by omega⟩; (· have hc9 := cl_I (i := v_25) (by omega); rw [show k9 = Int32.toNatClampNeg v_25 by omega]; exact hga_77); (· rw [ef_229, up_ne (kd_ne ka_2 ka_77 (by decide)), hfo_199]; rfl)); (· obtain ⟨b, w, w1, w2, w3, w4⟩ := tq7 k9 (by omega); exact ⟨b, w, w1, w2, by rw [ef_229, up_ne (kd_ne ka_2 w2 (by decide))]; exact w3, w4⟩))⟩)⟩, by rw [ht]; exact hP, va_K.moved hW.alike hK, pl_in hD⟩, hS.F ht⟩) hS.2.2 dX2_readRule_143
            · skip
              rw [Int32.lt_iff_toInt_lt, ti_3] at c_211
              refine lv_aload_n hx hb dX2_readRule_73 rfl (lv_at hl 2 rfl) ?_
              refine lv_aload_n hx hb dX2_readRule_74 rfl (lv_at hl 1 rfl) ?_
              obtain ⟨a_237, v_238, v_239, a_240, v_241, v_242, v_243, v_244, v_245, v_246, hfo_236, ⟨ma_237, ka_237⟩, ⟨ma_240, ka_240⟩, bv_241, bv_242, bv_243, bv_244, bv_245⟩ := un_2 (hG _ mo0) ko0
              have bv_238 : ((-2147483648) ≤ v_238.toInt ∧ v_238.toInt ≤ 2147483647) := ⟨i32_lo _, i32_hi _⟩
              have bv_239 : ((-2147483648) ≤ v_239.toInt ∧ v_239.toInt ≤ 2147483647) := ⟨i32_lo _, i32_hi _⟩
              have bv_246 : ((-2147483648) ≤ v_246.toInt ∧ v_246.toInt ≤ 2147483647) := ⟨i32_lo _, i32_hi _⟩
              obtain rfl : a_2 = a_237 := by have hk9 := hrr2_0 o0 ko0; rw [hfo_236, hfo_1] at hk9; exact (Option.some.inj hk9).symm
              obtain rfl : a_5 = a_240 := by have hk9 := hrr2_3 o0 ko0; rw [hfo_236, hfo_1] at hk9; exact (Option.some.inj hk9).symm
              refine tk_ViP (As := [.ref a_77]) (rest := []) (n := 1) hx hb hml hown hU hN hZ (s_X2_readContext_k2_k204 l (dC, dI) cI cL cZ cR cG cH Z kd L f_196 hG o0 mo0 ko0 a_77 ma_77 ka_77 (by intro w3 e3; rw [hfo_199] at e3; obtain rfl := Option.some.inj e3; omega)) wd_432 wd_433 wd_434 wd_33 wd_435 (by decide +kernel) ⟨Nat.le_of_ble_eq_true rfl, Nat.le_of_ble_eq_true rfl⟩ hK hP hD hS mo0 hfo_236 2 rfl rfl rfl hl.1 rfl (Nat.le_of_ble_eq_true rfl) dX2_readRule_75 ⟨Nat.le_of_ble_eq_true rfl, Nat.le_of_ble_eq_true rfl⟩ (fun x_247 f_248 H locs hw hP hD hS => ?_)
              obtain ⟨hG, bx_247, hkc_249, hfc_250, hfc_251, hfc_252, hfc_253, hrc_254, hrc_255⟩ := hw
              have hfo_257 : f_248 a_2 = .inr (7, [.ref a_13, .int v_14, .ref a_59, .ref a_16, .ref a_61, .ref a_62, .int v_63, .ref a_64, .ref a_65, .ref a_66, .ref a_67, .ref a_24, .int v_25, .ref a_70, .ref a_71, .ref a_72]) := by rw [hkc_249 a_2 (by rw [ka_2]; decide) (by rw [ka_2]; decide) (by rw [ka_2]; decide) (by rw [ka_2]; decide)]; exact hfo_197
              have hfo_258 : f_248 a_24 = .inl (cR, 8, .inr (.inr (.inr (.inr g_76)))) := by rw [hkc_249 a_24 (by rw [ka_24]; decide) (by rw [ka_24]; decide) (by rw [ka_24]; decide) (by rw [ka_24]; decide)]; exact hfo_198
              have hfr0 : ∀ b, kd b ≠ 2 → kd b ≠ 204 → kd b ≠ 205 → kd b ≠ 207 → kd b ≠ 558 → kd b ≠ 559 → kd b ≠ 568 → kd b ≠ 569 → kd b ≠ 570 → kd b ≠ 571 → kd b ≠ 572 → f_248 b = f b := fun b q2 q204 q205 q207 q558 q559 q568 q569 q570 q571 q572 => (hkc_249 b q2 q204 q205 q558).trans (hfr0 b q2 q204 q205 q207 q558 q559 q568 q569 q570 q571 q572)
              have hfr2_4 : ∀ b, kd b = 2 → fldI (f_248 b) 4 = fldI (f b) 4 := fun b kb => (hfc_250 b kb).trans (hfr2_4 b kb)
              have hfr207_1 : ∀ b, kd b = 207 → fldI (f_248 b) 1 = fldI (f b) 1 := fun b kb => (congrArg (fun x => fldI x 1) (hkc_249 b (by rw [kb]; decide) (by rw [kb]; decide) (by rw [kb]; decide) (by rw [kb]; decide))).trans (hfr207_1 b kb)
              have hrr2_0 : ∀ b, kd b = 2 → fldR (f_248 b) 0 = fldR (f b) 0 := fun b kb => (hrc_254 b kb).trans (hrr2_0 b kb)
              have hrr2_3 : ∀ b, kd b = 2 → fldR (f_248 b) 3 = fldR (f b) 3 := fun b kb => (hrc_255 b kb).trans (hrr2_3 b kb)
              have hrr207_0 : ∀ b, kd b = 207 → fldR (f_248 b) 0 = fldR (f b) 0 := fun b kb => (congrArg (fun x => fldR x 0) (hkc_249 b (by rw [kb]; decide) (by rw [kb]; decide) (by rw [kb]; decide) (by rw [kb]; decide))).trans (hrr207_0 b kb)
              have hrr207_3 : ∀ b, kd b = 207 → fldR (f_248 b) 3 = fldR (f b) 3 := fun b kb => (congrArg (fun x => fldR x 3) (hkc_249 b (by rw [kb]; decide) (by rw [kb]; decide) (by rw [kb]; decide) (by rw [kb]; decide))).trans (hrr207_3 b kb)
              have hrr207_11 : ∀ b, kd b = 207 → fldR (f_248 b) 11 = fldR (f b) 11 := fun b kb => (congrArg (fun x => fldR x 11) (hkc_249 b (by rw [kb]; decide) (by rw [kb]; decide) (by rw [kb]; decide) (by rw [kb]; decide))).trans (hrr207_11 b kb)
              have hTt_111 : trel kd 207 566 568 573 204 f_248 a_2 := hTt_111.keep (fun b q => hkc_249 b (by rw [q]; decide) (by rw [q]; decide) (by rw [q]; decide) (by rw [q]; decide)) (fun b q => hkc_249 b (by rw [q]; decide) (by rw [q]; decide) (by rw [q]; decide) (by rw [q]; decide)) (fun b q => hkc_249 b (by rw [q]; decide) (by rw [q]; decide) (by rw [q]; decide) (by rw [q]; decide)) (fun b q => hkc_249 b (by rw [q]; decide) (by rw [q]; decide) (by rw [q]; decide) (by rw [q]; decide)) (fun b q => hfc_253 b q)
              obtain ⟨v_260, v_261, v_262, v_263, a_264, a_265, a_266, a_267, v_268, v_269, v_270, hfo_259, bv_260, bv_261, bv_262, bv_263, ⟨ma_264, ka_264⟩, ⟨ma_265, ka_265⟩, ⟨ma_266, ka_266⟩, ⟨ma_267, ka_267⟩⟩ := un_204 (hG _ ma_77) ka_77
              have bv_268 : ((-2147483648) ≤ v_268.toInt ∧ v_268.toInt ≤ 2147483647) := ⟨i32_lo _, i32_hi _⟩
              have bv_269 : ((-2147483648) ≤ v_269.toInt ∧ v_269.toInt ≤ 2147483647) := ⟨i32_lo _, i32_hi _⟩
              have bv_270 : ((-2147483648) ≤ v_270.toInt ∧ v_270.toInt ≤ 2147483647) := ⟨i32_lo _, i32_hi _⟩
              obtain rfl : v_201 = v_261 := by have hk9 := hfc_253 a_77 ka_77; rw [hfo_259, hfo_199] at hk9; exact (Option.some.inj hk9).symm
              obtain ⟨a_272, v_273, v_274, a_275, v_276, v_277, v_278, v_279, v_280, v_281, hfo_271, ⟨ma_272, ka_272⟩, ⟨ma_275, ka_275⟩, bv_276, bv_277, bv_278, bv_279, bv_280⟩ := un_2 (hG _ mo0) ko0
              have bv_273 : ((-2147483648) ≤ v_273.toInt ∧ v_273.toInt ≤ 2147483647) := ⟨i32_lo _, i32_hi _⟩
              have bv_274 : ((-2147483648) ≤ v_274.toInt ∧ v_274.toInt ≤ 2147483647) := ⟨i32_lo _, i32_hi _⟩
              have bv_281 : ((-2147483648) ≤ v_281.toInt ∧ v_281.toInt ≤ 2147483647) := ⟨i32_lo _, i32_hi _⟩
              obtain rfl : a_2 = a_272 := by have hk9 := hrr2_0 o0 ko0; rw [hfo_271, hfo_1] at hk9; exact (Option.some.inj hk9).symm
              obtain rfl : a_5 = a_275 := by have hk9 := hrr2_3 o0 ko0; rw [hfo_271, hfo_1] at hk9; exact (Option.some.inj hk9).symm
              obtain rfl : v_241 = v_276 := by have hk9 := hfc_250 o0 ko0; rw [hfo_271, hfo_236] at hk9; exact (Option.some.inj hk9).symm
              obtain rfl : v_244 = v_279 := by have hk9 := hfc_251 o0 ko0; rw [hfo_271, hfo_236] at hk9; exact (Option.some.inj hk9).symm
              obtain rfl : v_245 = v_280 := by have hk9 := hfc_252 o0 ko0; rw [hfo_271, hfo_236] at hk9; exact (Option.some.inj hk9).symm
              refine lv_if_ne (tgt := 83) hx hb dX2_readRule_78 (by decide) (fun c_282 => ?_) (fun c_282 => ?_)
              · skip
                rw [← Int32.toInt_inj, ti_0] at c_282
                refine lv_aload_n hx hb dX2_readRule_83 rfl (lv_at hl 2 rfl) ?_
                refine lv_bipush (v := 124) hx hb dX2_readRule_84 (by decide) ?_
                refine tk_ViP (As := [.int 124]) (rest := []) (n := 1) hx hb hml hown hU hN hZ (s_X2_isNext_k2 l (dC, dI) cI cL cZ cR cG cH Z kd L f_248 hG o0 mo0 ko0 124 (by decide)) wd_458 wd_459 wd_460 wd_33 wd_461 (by decide +kernel) ⟨Nat.le_of_ble_eq_true rfl, Nat.le_of_ble_eq_true rfl⟩ hK hP hD hS mo0 hfo_271 2 rfl rfl rfl hl.1 rfl (Nat.le_of_ble_eq_true rfl) dX2_readRule_86 ⟨Nat.le_of_ble_eq_true rfl, Nat.le_of_ble_eq_true rfl⟩ (fun x_283 f_284 H locs hw hP hD hS => ?_)
                obtain ⟨hG, bx_283, hkc_285, hfc_286, hfc_287, hfc_288, hrc_289, hrc_290, hpost_291⟩ := hw
                have hfo_293 : f_284 a_2 = .inr (7, [.ref a_13, .int v_14, .ref a_59, .ref a_16, .ref a_61, .ref a_62, .int v_63, .ref a_64, .ref a_65, .ref a_66, .ref a_67, .ref a_24, .int v_25, .ref a_70, .ref a_71, .ref a_72]) := by rw [hkc_285 a_2 (by rw [ka_2]; decide)]; exact hfo_257
                have hfo_294 : f_284 a_24 = .inl (cR, 8, .inr (.inr (.inr (.inr g_76)))) := by rw [hkc_285 a_24 (by rw [ka_24]; decide)]; exact hfo_258
                have hfo_295 : f_284 a_77 = .inr (4, [.int v_260, .int v_201, .int v_262, .int v_263, .ref a_264, .ref a_265, .ref a_266, .ref a_267, .int v_268, .int v_269, .int v_270]) := by rw [hkc_285 a_77 (by rw [ka_77]; decide)]; exact hfo_259
                have hfr0 : ∀ b, kd b ≠ 2 → kd b ≠ 204 → kd b ≠ 205 → kd b ≠ 207 → kd b ≠ 558 → kd b ≠ 559 → kd b ≠ 568 → kd b ≠ 569 → kd b ≠ 570 → kd b ≠ 571 → kd b ≠ 572 → f_284 b = f b := fun b q2 q204 q205 q207 q558 q559 q568 q569 q570 q571 q572 => (hkc_285 b q2).trans (hfr0 b q2 q204 q205 q207 q558 q559 q568 q569 q570 q571 q572)
                have hfr2_4 : ∀ b, kd b = 2 → fldI (f_284 b) 4 = fldI (f b) 4 := fun b kb => (hfc_286 b kb).trans (hfr2_4 b kb)
                have hfr207_1 : ∀ b, kd b = 207 → fldI (f_284 b) 1 = fldI (f b) 1 := fun b kb => (congrArg (fun x => fldI x 1) (hkc_285 b (by rw [kb]; decide))).trans (hfr207_1 b kb)
                have hrr2_0 : ∀ b, kd b = 2 → fldR (f_284 b) 0 = fldR (f b) 0 := fun b kb => (hrc_289 b kb).trans (hrr2_0 b kb)
                have hrr2_3 : ∀ b, kd b = 2 → fldR (f_284 b) 3 = fldR (f b) 3 := fun b kb => (hrc_290 b kb).trans (hrr2_3 b kb)
                have hrr207_0 : ∀ b, kd b = 207 → fldR (f_284 b) 0 = fldR (f b) 0 := fun b kb => (congrArg (fun x => fldR x 0) (hkc_285 b (by rw [kb]; decide))).trans (hrr207_0 b kb)
                have hrr207_3 : ∀ b, kd b = 207 → fldR (f_284 b) 3 = fldR (f b) 3 := fun b kb => (congrArg (fun x => fldR x 3) (hkc_285 b (by rw [kb]; decide))).trans (hrr207_3 b kb)
                have hrr207_11 : ∀ b, kd b = 207 → fldR (f_284 b) 11 = fldR (f b) 11 := fun b kb => (congrArg (fun x => fldR x 11) (hkc_285 b (by rw [kb]; decide))).trans (hrr207_11 b kb)
                have hTt_111 : trel kd 207 566 568 573 204 f_284 a_2 := hTt_111.keep (fun b q => hkc_285 b (by rw [q]; decide)) (fun b q => hkc_285 b (by rw [q]; decide)) (fun b q => hkc_285 b (by rw [q]; decide)) (fun b q => hkc_285 b (by rw [q]; decide)) (fun b q => congrArg (fun x => fldI x 1) (hkc_285 b (by rw [q]; decide)))
                obtain ⟨a_297, v_298, v_299, a_300, v_301, v_302, v_303, v_304, v_305, v_306, hfo_296, ⟨ma_297, ka_297⟩, ⟨ma_300, ka_300⟩, bv_301, bv_302, bv_303, bv_304, bv_305⟩ := un_2 (hG _ mo0) ko0
                have bv_298 : ((-2147483648) ≤ v_298.toInt ∧ v_298.toInt ≤ 2147483647) := ⟨i32_lo _, i32_hi _⟩
                have bv_299 : ((-2147483648) ≤ v_299.toInt ∧ v_299.toInt ≤ 2147483647) := ⟨i32_lo _, i32_hi _⟩
                have bv_306 : ((-2147483648) ≤ v_306.toInt ∧ v_306.toInt ≤ 2147483647) := ⟨i32_lo _, i32_hi _⟩
                obtain rfl : a_2 = a_297 := by have hk9 := hrr2_0 o0 ko0; rw [hfo_296, hfo_1] at hk9; exact (Option.some.inj hk9).symm
                obtain rfl : a_5 = a_300 := by have hk9 := hrr2_3 o0 ko0; rw [hfo_296, hfo_1] at hk9; exact (Option.some.inj hk9).symm
                obtain rfl : v_241 = v_301 := by have hk9 := hfc_286 o0 ko0; rw [hfo_296, hfo_271] at hk9; exact (Option.some.inj hk9).symm
                obtain rfl : v_244 = v_304 := by have hk9 := hfc_287 o0 ko0; rw [hfo_296, hfo_271] at hk9; exact (Option.some.inj hk9).symm
                obtain rfl : v_245 = v_305 := by have hk9 := hfc_288 o0 ko0; rw [hfo_296, hfo_271] at hk9; exact (Option.some.inj hk9).symm
                have hqhpost_291 := hpost_291 v_277 v_302 (by rw [hfo_271]; rfl) (by rw [hfo_296]; rfl)
                try rw [ti_124] at hqhpost_291
                refine lv_if_ne (tgt := 95) hx hb dX2_readRule_89 (by decide) (fun c_307 => ?_) (fun c_307 => ?_)
                · skip
                  rw [← Int32.toInt_inj, ti_0] at c_307
                  refine lv_aload_n hx hb dX2_readRule_95 rfl (lv_at hl 1 rfl) ?_
                  refine tk_getP (D := (dC, dI)) (ci := 4) (v := .int v_263) (C := RX4) (T := TX4) (N := 11) hx hb hU inlX4 hown hK hP ma_77 hfo_295 rfl 3 (by decide) (hU _ wd_402) (fun _ h9 => h9) rfl dX2_readRule_96 ?_
                  refine lv_iconst (v := 3) hx hb dX2_readRule_99 (by decide) ?_
                  refine lv_icmp_ne (tgt := 113) hx hb dX2_readRule_100 (by decide) (fun c_308 => ?_) (fun c_308 => ?_)
                  · skip
                    rw [← Int32.toInt_inj, ti_3] at c_308
                    have hclc_309 : (0 ≤ v_302.toInt ∧ v_302.toInt ≤ 599) := by constructor <;> omega
                    refine lv_aload_n hx hb dX2_readRule_113 rfl (lv_at hl 2 rfl) ?_
                    refine lv_dup hx hb dX2_readRule_114 rfl ?_
                    refine tk_getP (D := (dC, dI)) (ci := 2) (v := .int v_302) (C := RX2) (T := TX2) (N := 10) hx hb hU inlX2 hown hK hP mo0 hfo_296 rfl 5 (by decide) (hU _ wd_256) (fun _ h9 => h9) rfl dX2_readRule_115 ?_
                    refine lv_iconst (v := 1) hx hb dX2_readRule_118 (by decide) ?_
                    refine lv_iadd hx hb dX2_readRule_119 ?_
                    refine lv_topi (fun x_310 ex_310 => ?_)
                    have hx_310 : x_310.toInt = v_302.toInt + 1 := by rw [ex_310, ad_I (by rw [ti_1]; omega) (by rw [ti_1]; omega), ti_1]
                    have bx_310 : (1 ≤ x_310.toInt ∧ x_310.toInt ≤ 600) := by constructor <;> omega
                    refine tk_putP (D := (dC, dI)) (ci := 2) (v := .int x_310) (ty := .int) (C := RX2) (T := TX2) (N := 10) hx hb hU inlX2 tyX2 tyX2_ok nmX2 hown hK hP hD hS mo0 hfo_296 rfl 5 (by decide) (hU _ wd_256) (fun _ h9 => h9) rfl (by decide +kernel) rfl rfl (Nat.le_of_ble_eq_true rfl) dX2_readRule_120 (fun H locs hP hD hS => ?_)
                    obtain ⟨f_312, ef_312⟩ : ∃ y : Nat → va_E, y = va_up f_284 o0 (.inr (2, [.ref a_2, .int v_298, .int v_299, .ref a_5, .int v_241, .int x_310, .int v_303, .int v_244, .int v_245, .int v_306])) := ⟨_, rfl⟩
                    have hP : va_P (dC, dI) vwCl (va_pl L f_312) H := by rw [ef_312]; exact hP
                    have hD : va_D (fun q => q ∈ L) (va_pl L f_312) := by rw [ef_312]; exact hD
                    have hG : GI (okc cI cL cZ cR cG cH L kd) kd L f_312 := by rw [ef_312]; exact hG.set o0 (mk_2 ko0 ⟨a_2, v_298, v_299, a_5, v_241, x_310, v_303, v_244, v_245, v_306, rfl, ⟨ma_2, ka_2⟩, ⟨ma_5, ka_5⟩, (by constructor <;> omega), (by constructor <;> omega), (by constructor <;> omega), (by constructor <;> omega), (by constructor <;> omega)⟩)
                    have hfo_313 : f_312 a_2 = .inr (7, [.ref a_13, .int v_14, .ref a_59, .ref a_16, .ref a_61, .ref a_62, .int v_63, .ref a_64, .ref a_65, .ref a_66, .ref a_67, .ref a_24, .int v_25, .ref a_70, .ref a_71, .ref a_72]) := by rw [ef_312, up_ne (kd_ne ko0 ka_2 (by decide))]; exact hfo_293
                    have hfo_314 : f_312 a_24 = .inl (cR, 8, .inr (.inr (.inr (.inr g_76)))) := by rw [ef_312, up_ne (kd_ne ko0 ka_24 (by decide))]; exact hfo_294
                    have hfo_315 : f_312 a_77 = .inr (4, [.int v_260, .int v_201, .int v_262, .int v_263, .ref a_264, .ref a_265, .ref a_266, .ref a_267, .int v_268, .int v_269, .int v_270]) := by rw [ef_312, up_ne (kd_ne ko0 ka_77 (by decide))]; exact hfo_295
                    have hfr0 : ∀ b, kd b ≠ 2 → kd b ≠ 204 → kd b ≠ 205 → kd b ≠ 207 → kd b ≠ 558 → kd b ≠ 559 → kd b ≠ 568 → kd b ≠ 569 → kd b ≠ 570 → kd b ≠ 571 → kd b ≠ 572 → f_312 b = f b := fun b q2 q204 q205 q207 q558 q559 q568 q569 q570 q571 q572 => (congrFun ef_312 b).trans ((up_ne (fun e9 => q2 (by rw [e9]; exact ko0))).trans (hfr0 b q2 q204 q205 q207 q558 q559 q568 q569 q570 q571 q572))
                    have hfr2_4 : ∀ b, kd b = 2 → fldI (f_312 b) 4 = fldI (f b) 4 := fun b kb => ((congrArg (fun x => fldI x 4) (congrFun ef_312 b)).trans (fk_up (by rw [hfo_296]; rfl) b)).trans (hfr2_4 b kb)
                    have hfr207_1 : ∀ b, kd b = 207 → fldI (f_312 b) 1 = fldI (f b) 1 := fun b kb => (congrArg (fun x => fldI x 1) ((congrFun ef_312 b).trans (up_ne (kd_ne ko0 kb (by decide))))).trans (hfr207_1 b kb)
                    have hrr2_0 : ∀ b, kd b = 2 → fldR (f_312 b) 0 = fldR (f b) 0 := fun b kb => ((congrArg (fun x => fldR x 0) (congrFun ef_312 b)).trans (fr_up (by rw [hfo_296]; rfl) b)).trans (hrr2_0 b kb)
                    have hrr2_3 : ∀ b, kd b = 2 → fldR (f_312 b) 3 = fldR (f b) 3 := fun b kb => ((congrArg (fun x => fldR x 3) (congrFun ef_312 b)).trans (fr_up (by rw [hfo_296]; rfl) b)).trans (hrr2_3 b kb)
                    have hrr207_0 : ∀ b, kd b = 207 → fldR (f_312 b) 0 = fldR (f b) 0 := fun b kb => (congrArg (fun x => fldR x 0) ((congrFun ef_312 b).trans (up_ne (kd_ne ko0 kb (by decide))))).trans (hrr207_0 b kb)
                    have hrr207_3 : ∀ b, kd b = 207 → fldR (f_312 b) 3 = fldR (f b) 3 := fun b kb => (congrArg (fun x => fldR x 3) ((congrFun ef_312 b).trans (up_ne (kd_ne ko0 kb (by decide))))).trans (hrr207_3 b kb)
                    have hrr207_11 : ∀ b, kd b = 207 → fldR (f_312 b) 11 = fldR (f b) 11 := fun b kb => (congrArg (fun x => fldR x 11) ((congrFun ef_312 b).trans (up_ne (kd_ne ko0 kb (by decide))))).trans (hrr207_11 b kb)
                    have hTt_111 : trel kd 207 566 568 573 204 f_312 a_2 := by rw [ef_312]; exact hTt_111.up ko0 (by decide) (by decide) (by decide) (by decide) (by decide)
                    have hfo_316 : f_312 o0 = .inr (2, [.ref a_2, .int v_298, .int v_299, .ref a_5, .int v_241, .int x_310, .int v_303, .int v_244, .int v_245, .int v_306]) := by rw [ef_312]; exact up_self
                    obtain ⟨x_317, ex_317⟩ : ∃ y : Int32, y_194 + 1 = y := ⟨_, rfl⟩
                    have hx_317 : x_317.toInt = y_194.toInt + 1 := by rw [← ex_317, ad_I (by rw [ti_1]; omega) (by rw [ti_1]; omega), ti_1]
                    have bx_317 : (1 ≤ x_317.toInt ∧ x_317.toInt ≤ 4) := by constructor <;> omega
                    refine lv_iinc (v := x_317) (lv' := [(3, .int x_317), (2, .ref a_77), (0, .ref o0), (1, .int p1)]) hx hb dX2_readRule_123 hl (k := 0) rfl ex_317 (by decide) rfl (fun ls hl => ?_)
                    refine lv_goto (tgt := 68) hx hb dX2_readRule_126 (by decide) ?_
                    exact ih_hloop_193 x_317 (by constructor <;> omega) f_312 hG _ _ hP hS hD hfr0 hfr2_4 hfr207_1 hrr2_0 hrr2_3 hrr207_0 hrr207_3 hrr207_11 hfo_313 hfo_314 hTt_111 v_263 (by rw [hfo_315]; rfl) v_201 (by rw [hfo_315]; rfl) (by omega) (by omega) (by omega) (by omega) ls (lv_sub hl [0, 1, 2, 3] rfl)
                  · skip
                    rw [← Int32.toInt_inj, ti_3] at c_308
                    refine lv_aload_n hx hb dX2_readRule_103 rfl (lv_at hl 2 rfl) ?_
                    refine lv_iconst (v := 3) hx hb dX2_readRule_104 (by decide) ?_
                    refine lv_aload_n hx hb dX2_readRule_105 rfl (lv_at hl 2 rfl) ?_
                    refine tk_getP (D := (dC, dI)) (ci := 2) (v := .int v_302) (C := RX2) (T := TX2) (N := 10) hx hb hU inlX2 hown hK hP mo0 hfo_296 rfl 5 (by decide) (hU _ wd_256) (fun _ h9 => h9) rfl dX2_readRule_106 ?_
                    refine tk_ViP (As := [.int 3, .int v_302]) (rest := []) (n := 2) hx hb hml hown hU hN hZ (s_X2_fail_k2 l (dC, dI) cI cL cZ cR cG cH Z kd L f_284 hG o0 mo0 ko0 3 v_302) wd_349 wd_350 wd_351 wd_33 wd_352 (by decide +kernel) ⟨Nat.le_of_ble_eq_true rfl, Nat.le_of_ble_eq_true rfl⟩ hK hP hD hS mo0 hfo_296 2 rfl rfl rfl hl.1 rfl (Nat.le_of_ble_eq_true rfl) dX2_readRule_109 ⟨Nat.le_of_ble_eq_true rfl, Nat.le_of_ble_eq_true rfl⟩ (fun x_318 f_319 H locs hw hP hD hS => ?_)
                    obtain ⟨hG, bx_318, hkc_320, hfc_321, hfc_322, hfc_323, hfc_324, hrc_325, hrc_326⟩ := hw
                    have hfo_328 : f_319 a_2 = .inr (7, [.ref a_13, .int v_14, .ref a_59, .ref a_16, .ref a_61, .ref a_62, .int v_63, .ref a_64, .ref a_65, .ref a_66, .ref a_67, .ref a_24, .int v_25, .ref a_70, .ref a_71, .ref a_72]) := by rw [hkc_320 a_2 (by rw [ka_2]; decide)]; exact hfo_293
                    have hfo_329 : f_319 a_24 = .inl (cR, 8, .inr (.inr (.inr (.inr g_76)))) := by rw [hkc_320 a_24 (by rw [ka_24]; decide)]; exact hfo_294
                    have hfo_330 : f_319 a_77 = .inr (4, [.int v_260, .int v_201, .int v_262, .int v_263, .ref a_264, .ref a_265, .ref a_266, .ref a_267, .int v_268, .int v_269, .int v_270]) := by rw [hkc_320 a_77 (by rw [ka_77]; decide)]; exact hfo_295
                    have hfr0 : ∀ b, kd b ≠ 2 → kd b ≠ 204 → kd b ≠ 205 → kd b ≠ 207 → kd b ≠ 558 → kd b ≠ 559 → kd b ≠ 568 → kd b ≠ 569 → kd b ≠ 570 → kd b ≠ 571 → kd b ≠ 572 → f_319 b = f b := fun b q2 q204 q205 q207 q558 q559 q568 q569 q570 q571 q572 => (hkc_320 b q2).trans (hfr0 b q2 q204 q205 q207 q558 q559 q568 q569 q570 q571 q572)
                    have hfr2_4 : ∀ b, kd b = 2 → fldI (f_319 b) 4 = fldI (f b) 4 := fun b kb => (hfc_321 b kb).trans (hfr2_4 b kb)
                    have hfr207_1 : ∀ b, kd b = 207 → fldI (f_319 b) 1 = fldI (f b) 1 := fun b kb => (congrArg (fun x => fldI x 1) (hkc_320 b (by rw [kb]; decide))).trans (hfr207_1 b kb)
                    have hrr2_0 : ∀ b, kd b = 2 → fldR (f_319 b) 0 = fldR (f b) 0 := fun b kb => (hrc_325 b kb).trans (hrr2_0 b kb)
                    have hrr2_3 : ∀ b, kd b = 2 → fldR (f_319 b) 3 = fldR (f b) 3 := fun b kb => (hrc_326 b kb).trans (hrr2_3 b kb)
                    have hrr207_0 : ∀ b, kd b = 207 → fldR (f_319 b) 0 = fldR (f b) 0 := fun b kb => (congrArg (fun x => fldR x 0) (hkc_320 b (by rw [kb]; decide))).trans (hrr207_0 b kb)
                    have hrr207_3 : ∀ b, kd b = 207 → fldR (f_319 b) 3 = fldR (f b) 3 := fun b kb => (congrArg (fun x => fldR x 3) (hkc_320 b (by rw [kb]; decide))).trans (hrr207_3 b kb)
                    have hrr207_11 : ∀ b, kd b = 207 → fldR (f_319 b) 11 = fldR (f b) 11 := fun b kb => (congrArg (fun x => fldR x 11) (hkc_320 b (by rw [kb]; decide))).trans (hrr207_11 b kb)
                    have hTt_111 : trel kd 207 566 568 573 204 f_319 a_2 := hTt_111.keep (fun b q => hkc_320 b (by rw [q]; decide)) (fun b q => hkc_320 b (by rw [q]; decide)) (fun b q => hkc_320 b (by rw [q]; decide)) (fun b q => hkc_320 b (by rw [q]; decide)) (fun b q => congrArg (fun x => fldI x 1) (hkc_320 b (by rw [q]; decide)))
                    obtain ⟨a_332, v_333, v_334, a_335, v_336, v_337, v_338, v_339, v_340, v_341, hfo_331, ⟨ma_332, ka_332⟩, ⟨ma_335, ka_335⟩, bv_336, bv_337, bv_338, bv_339, bv_340⟩ := un_2 (hG _ mo0) ko0
                    have bv_333 : ((-2147483648) ≤ v_333.toInt ∧ v_333.toInt ≤ 2147483647) := ⟨i32_lo _, i32_hi _⟩
                    have bv_334 : ((-2147483648) ≤ v_334.toInt ∧ v_334.toInt ≤ 2147483647) := ⟨i32_lo _, i32_hi _⟩
                    have bv_341 : ((-2147483648) ≤ v_341.toInt ∧ v_341.toInt ≤ 2147483647) := ⟨i32_lo _, i32_hi _⟩
                    obtain rfl : a_2 = a_332 := by have hk9 := hrr2_0 o0 ko0; rw [hfo_331, hfo_1] at hk9; exact (Option.some.inj hk9).symm
                    obtain rfl : a_5 = a_335 := by have hk9 := hrr2_3 o0 ko0; rw [hfo_331, hfo_1] at hk9; exact (Option.some.inj hk9).symm
                    obtain rfl : v_241 = v_336 := by have hk9 := hfc_321 o0 ko0; rw [hfo_331, hfo_296] at hk9; exact (Option.some.inj hk9).symm
                    obtain rfl : v_302 = v_337 := by have hk9 := hfc_322 o0 ko0; rw [hfo_331, hfo_296] at hk9; exact (Option.some.inj hk9).symm
                    obtain rfl : v_244 = v_339 := by have hk9 := hfc_323 o0 ko0; rw [hfo_331, hfo_296] at hk9; exact (Option.some.inj hk9).symm
                    obtain rfl : v_245 = v_340 := by have hk9 := hfc_324 o0 ko0; rw [hfo_331, hfo_296] at hk9; exact (Option.some.inj hk9).symm
                    exact W.zret (v := x_318) (ty := .boolean) hx hb hr (zb_n (by constructor <;> omega)) (fun t ht hW => ⟨⟨x_318, f_319, rfl, ⟨hG, (by constructor <;> omega), hfr0, hfr2_4, hfr207_1, hrr2_0, hrr2_3, hrr207_0, hrr207_3, hrr207_11, (fun d9 h9 => by rw [hfo_331] at h9; obtain rfl := Option.some.inj h9; exact hTt_111)⟩, by rw [ht]; exact hP, va_K.moved hW.alike hK, pl_in hD⟩, hS.F ht⟩) hS.2.2 dX2_readRule_112
                · skip
                  rw [← Int32.toInt_inj, ti_0] at c_307
                  refine lv_goto (tgt := 129) hx hb dX2_readRule_92 (by decide) ?_
                  have hTq := hTt_111
                  obtain ⟨g_343, hfo_342, hbg_343⟩ := un_566 (hG _ ma_13) ka_13
                  obtain ⟨g_345, hfo_344, hbg_345⟩ := un_568 (hG _ ma_16) ka_16
                  obtain ⟨tqn, tqp, tqc, tqs, tqa, tqr, tqg, tqh, tqq, ⟨-, -, -, -⟩, ⟨tqt1, tqt2, tqt3, tqt4, tqt5, tqt6⟩, ⟨tqw1, tqw2, tqw3⟩, tq4, tq5, tq6, tq7⟩ := hTq
                  rw [hfo_293] at tqt1 tqt2 tqt3 tqt4 tqt5 tqt6
                  obtain rfl := Option.some.inj tqt1
                  obtain rfl := Option.some.inj tqt2
                  obtain rfl := Option.some.inj tqt3
                  obtain rfl := Option.some.inj tqt4
                  obtain rfl := Option.some.inj tqt5
                  obtain rfl := Option.some.inj tqt6
                  rw [hfo_342] at tqw1
                  obtain rfl := Option.some.inj tqw1
                  rw [hfo_344] at tqw2
                  obtain rfl := Option.some.inj tqw2
                  rw [hfo_294] at tqw3
                  obtain rfl := Option.some.inj tqw3
                  refine lv_aload_n hx hb dX2_readRule_129 rfl (lv_at hl 2 rfl) ?_
                  refine tk_getP (D := (dC, dI)) (ci := 2) (v := .ref a_2) (C := RX2) (T := TX2) (N := 10) hx hb hU inlX2 hown hK hP mo0 hfo_296 rfl 0 (by decide) (hU _ wd_150) (fun _ h9 => h9) rfl dX2_readRule_130 ?_
                  refine lv_dup hx hb dX2_readRule_133 rfl ?_
                  refine tk_getP (D := (dC, dI)) (ci := 7) (v := .int v_25) (C := RX7) (T := TX7) (N := 16) hx hb hU inlX7 hown hK hP ma_2 hfo_293 rfl 12 (by decide) (hU _ wd_400) (fun _ h9 => h9) rfl dX2_readRule_134 ?_
                  refine lv_iconst (v := 1) hx hb dX2_readRule_137 (by decide) ?_
                  refine lv_iadd hx hb dX2_readRule_138 ?_
                  refine lv_topi (fun x_346 ex_346 => ?_)
                  have hx_346 : x_346.toInt = v_25.toInt + 1 := by rw [ex_346, ad_I (by rw [ti_1]; omega) (by rw [ti_1]; omega), ti_1]
                  have bx_346 : (1 ≤ x_346.toInt ∧ x_346.toInt ≤ 8) := by constructor <;> omega
                  refine tk_putP (D := (dC, dI)) (ci := 7) (v := .int x_346) (ty := .int) (C := RX7) (T := TX7) (N := 16) hx hb hU inlX7 tyX7 tyX7_ok nmX7 hown hK hP hD hS ma_2 hfo_293 rfl 12 (by decide) (hU _ wd_400) (fun _ h9 => h9) rfl (by decide +kernel) rfl rfl (Nat.le_of_ble_eq_true rfl) dX2_readRule_139 (fun H locs hP hD hS => ?_)
                  obtain ⟨f_348, ef_348⟩ : ∃ y : Nat → va_E, y = va_up f_284 a_2 (.inr (7, [.ref a_13, .int v_14, .ref a_59, .ref a_16, .ref a_61, .ref a_62, .int v_63, .ref a_64, .ref a_65, .ref a_66, .ref a_67, .ref a_24, .int x_346, .ref a_70, .ref a_71, .ref a_72])) := ⟨_, rfl⟩
                  have hP : va_P (dC, dI) vwCl (va_pl L f_348) H := by rw [ef_348]; exact hP
                  have hD : va_D (fun q => q ∈ L) (va_pl L f_348) := by rw [ef_348]; exact hD
                  have hG : GI (okc cI cL cZ cR cG cH L kd) kd L f_348 := by rw [ef_348]; exact hG.set a_2 (mk_207 ka_2 ⟨a_13, v_14, a_59, a_16, a_61, a_62, v_63, a_64, a_65, a_66, a_67, a_24, x_346, a_70, a_71, a_72, rfl, ⟨ma_13, ka_13⟩, (by constructor <;> omega), ⟨ma_59, ka_59⟩, ⟨ma_16, ka_16⟩, ⟨ma_61, ka_61⟩, ⟨ma_62, ka_62⟩, (by constructor <;> omega), ⟨ma_64, ka_64⟩, ⟨ma_65, ka_65⟩, ⟨ma_66, ka_66⟩, ⟨ma_67, ka_67⟩, ⟨ma_24, ka_24⟩, (by constructor <;> omega), ⟨ma_70, ka_70⟩, ⟨ma_71, ka_71⟩, ⟨ma_72, ka_72⟩⟩)
                  have hfo_349 : f_348 a_24 = .inl (cR, 8, .inr (.inr (.inr (.inr g_76)))) := by rw [ef_348, up_ne (kd_ne ka_2 ka_24 (by decide))]; exact hfo_294
                  have hfo_350 : f_348 a_77 = .inr (4, [.int v_260, .int v_201, .int v_262, .int v_263, .ref a_264, .ref a_265, .ref a_266, .ref a_267, .int v_268, .int v_269, .int v_270]) := by rw [ef_348, up_ne (kd_ne ka_2 ka_77 (by decide))]; exact hfo_295
                  have hfo_351 : f_348 o0 = .inr (2, [.ref a_2, .int v_298, .int v_299, .ref a_5, .int v_241, .int v_302, .int v_303, .int v_244, .int v_245, .int v_306]) := by rw [ef_348, up_ne (kd_ne ka_2 ko0 (by decide))]; exact hfo_296
                  have hfo_352 : f_348 a_13 = .inl (cI, 26, .inl g_343) := by rw [ef_348, up_ne (kd_ne ka_2 ka_13 (by decide))]; exact hfo_342
                  have hfo_353 : f_348 a_16 = .inl (cI, 81, .inl g_345) := by rw [ef_348, up_ne (kd_ne ka_2 ka_16 (by decide))]; exact hfo_344
                  have hfr0 : ∀ b, kd b ≠ 2 → kd b ≠ 204 → kd b ≠ 205 → kd b ≠ 207 → kd b ≠ 558 → kd b ≠ 559 → kd b ≠ 568 → kd b ≠ 569 → kd b ≠ 570 → kd b ≠ 571 → kd b ≠ 572 → f_348 b = f b := fun b q2 q204 q205 q207 q558 q559 q568 q569 q570 q571 q572 => (congrFun ef_348 b).trans ((up_ne (fun e9 => q207 (by rw [e9]; exact ka_2))).trans (hfr0 b q2 q204 q205 q207 q558 q559 q568 q569 q570 q571 q572))
                  have hfr2_4 : ∀ b, kd b = 2 → fldI (f_348 b) 4 = fldI (f b) 4 := fun b kb => (congrArg (fun x => fldI x 4) ((congrFun ef_348 b).trans (up_ne (kd_ne ka_2 kb (by decide))))).trans (hfr2_4 b kb)
                  have hfr207_1 : ∀ b, kd b = 207 → fldI (f_348 b) 1 = fldI (f b) 1 := fun b kb => ((congrArg (fun x => fldI x 1) (congrFun ef_348 b)).trans (fk_up (by rw [hfo_293]; rfl) b)).trans (hfr207_1 b kb)
                  have hrr2_0 : ∀ b, kd b = 2 → fldR (f_348 b) 0 = fldR (f b) 0 := fun b kb => (congrArg (fun x => fldR x 0) ((congrFun ef_348 b).trans (up_ne (kd_ne ka_2 kb (by decide))))).trans (hrr2_0 b kb)
                  have hrr2_3 : ∀ b, kd b = 2 → fldR (f_348 b) 3 = fldR (f b) 3 := fun b kb => (congrArg (fun x => fldR x 3) ((congrFun ef_348 b).trans (up_ne (kd_ne ka_2 kb (by decide))))).trans (hrr2_3 b kb)
                  have hrr207_0 : ∀ b, kd b = 207 → fldR (f_348 b) 0 = fldR (f b) 0 := fun b kb => ((congrArg (fun x => fldR x 0) (congrFun ef_348 b)).trans (fr_up (by rw [hfo_293]; rfl) b)).trans (hrr207_0 b kb)
                  have hrr207_3 : ∀ b, kd b = 207 → fldR (f_348 b) 3 = fldR (f b) 3 := fun b kb => ((congrArg (fun x => fldR x 3) (congrFun ef_348 b)).trans (fr_up (by rw [hfo_293]; rfl) b)).trans (hrr207_3 b kb)
                  have hrr207_11 : ∀ b, kd b = 207 → fldR (f_348 b) 11 = fldR (f b) 11 := fun b kb => ((congrArg (fun x => fldR x 11) (congrFun ef_348 b)).trans (fr_up (by rw [hfo_293]; rfl) b)).trans (hrr207_11 b kb)
                  have hfo_354 : f_348 a_2 = .inr (7, [.ref a_13, .int v_14, .ref a_59, .ref a_16, .ref a_61, .ref a_62, .int v_63, .ref a_64, .ref a_65, .ref a_66, .ref a_67, .ref a_24, .int x_346, .ref a_70, .ref a_71, .ref a_72]) := by rw [ef_348]; exact up_self
                  refine lv_iconst (v := 1) hx hb dX2_readRule_142 (by decide) ?_
                  exact W.zret (v := 1) (ty := .boolean) hx hb hr rfl (fun t ht hW => ⟨⟨1, f_348, rfl, ⟨hG, (by decide), hfr0, hfr2_4, hfr207_1, hrr2_0, hrr2_3, hrr207_0, hrr207_3, hrr207_11, (fun d9 h9 => by rw [hfo_351] at h9; obtain rfl := Option.some.inj h9; exact ⟨v_14, v_63, x_346, a_13, a_16, a_24, g_343, g_345, g_76, ⟨ka_2, ka_13, ka_16, ka_24⟩, (by rw [hfo_354]; exact ⟨rfl, rfl, rfl, rfl, rfl, rfl⟩), ⟨by rw [hfo_352]; rfl, by rw [hfo_353]; rfl, by rw [hfo_349]; rfl⟩, tq4, tq5, tq6, (fun k9 hk9 => by by_cases hkc : (k9 : Int) = v_25.toInt; (· refine ⟨a_77, v_201, ?_, ka_77, ?_, by omega⟩; (· have hc9 := cl_I (i := v_25) (by omega); rw [show k9 = Int32.toNatClampNeg v_25 by omega]; exact hga_77); (· rw [ef_348, up_ne (kd_ne ka_2 ka_77 (by decide)), hfo_295]; rfl)); (· obtain ⟨b, w, w1, w2, w3, w4⟩ := tq7 k9 (by omega); exact ⟨b, w, w1, w2, by rw [ef_348, up_ne (kd_ne ka_2 w2 (by decide))]; exact w3, w4⟩))⟩)⟩, by rw [ht]; exact hP, va_K.moved hW.alike hK, pl_in hD⟩, hS.F ht⟩) hS.2.2 dX2_readRule_143
              · skip
                rw [← Int32.toInt_inj, ti_0] at c_282
                refine lv_iconst (v := 0) hx hb dX2_readRule_81 (by decide) ?_
                exact W.zret (v := 0) (ty := .boolean) hx hb hr rfl (fun t ht hW => ⟨⟨0, f_248, rfl, ⟨hG, (by decide), hfr0, hfr2_4, hfr207_1, hrr2_0, hrr2_3, hrr207_0, hrr207_3, hrr207_11, (fun d9 h9 => by rw [hfo_271] at h9; obtain rfl := Option.some.inj h9; exact hTt_111)⟩, by rw [ht]; exact hP, va_K.moved hW.alike hK, pl_in hD⟩, hS.F ht⟩) hS.2.2 dX2_readRule_82
        exact hloop_193 5 0 (by decide) f_113 hG _ _ hP hS hD hfr0 hfr2_4 hfr207_1 hrr2_0 hrr2_3 hrr207_0 hrr207_3 hrr207_11 hfo_123 hfo_124 hTt_111 v_103 (by rw [hfo_136]; rfl) v_101 (by rw [hfo_136]; rfl) (by (try rw [ti_0]) <;> omega) (by (try rw [ti_0]) <;> omega) (by (try rw [ti_0]) <;> omega) (by (try rw [ti_0]) <;> omega) ls hl
      · skip
        rw [← Int32.toInt_inj, ti_0] at c_148
        refine lv_iconst (v := 0) hx hb dX2_readRule_64 (by decide) ?_
        exact W.zret (v := 0) (ty := .boolean) hx hb hr rfl (fun t ht hW => ⟨⟨0, f_113, rfl, ⟨hG, (by decide), hfr0, hfr2_4, hfr207_1, hrr2_0, hrr2_3, hrr207_0, hrr207_3, hrr207_11, (fun d9 h9 => by rw [hfo_125] at h9; obtain rfl := Option.some.inj h9; exact hTt_111)⟩, by rw [ht]; exact hP, va_K.moved hW.alike hK, pl_in hD⟩, hS.F ht⟩) hS.2.2 dX2_readRule_65
    · skip
      rw [← Int32.toInt_inj, ti_0] at c_74
      refine lv_iconst (v := 0) hx hb dX2_readRule_26 (by decide) ?_
      exact W.zret (v := 0) (ty := .boolean) hx hb hr rfl (fun t ht hW => ⟨⟨0, f_31, rfl, ⟨hG, (by decide), hfr0, hfr2_4, hfr207_1, hrr2_0, hrr2_3, hrr207_0, hrr207_3, hrr207_11, (fun d9 h9 => by rw [hfo_45] at h9; obtain rfl := Option.some.inj h9; exact hT_73)⟩, by rw [ht]; exact hP, va_K.moved hW.alike hK, pl_in hD⟩, hS.F ht⟩) hS.2.2 dX2_readRule_27
  · skip
    rw [← Int32.toInt_inj, ti_8] at c_29
    refine lv_aload_n hx hb dX2_readRule_12 rfl (lv_at hl 0 rfl) ?_
    refine lv_iconst (v := 3) hx hb dX2_readRule_13 (by decide) ?_
    refine lv_iload_n hx hb dX2_readRule_14 rfl (lv_at hl 1 rfl) ?_
    refine tk_ViP (As := [.int 3, .int p1]) (rest := []) (n := 2) hx hb hml hown hU hN hZ (s_X2_fail_k2 l (dC, dI) cI cL cZ cR cG cH Z kd L f hG o0 mo0 ko0 3 p1) wd_349 wd_350 wd_351 wd_33 wd_352 (by decide +kernel) ⟨Nat.le_of_ble_eq_true rfl, Nat.le_of_ble_eq_true rfl⟩ hK hP hD hS mo0 hfo_1 2 rfl rfl rfl hl.1 rfl (Nat.le_of_ble_eq_true rfl) dX2_readRule_15 ⟨Nat.le_of_ble_eq_true rfl, Nat.le_of_ble_eq_true rfl⟩ (fun x_355 f_356 H locs hw hP hD hS => ?_)
    obtain ⟨hG, bx_355, hkc_357, hfc_358, hfc_359, hfc_360, hfc_361, hrc_362, hrc_363⟩ := hw
    have hfo_365 : f_356 a_2 = .inr (7, [.ref a_13, .int v_14, .ref a_15, .ref a_16, .ref a_17, .ref a_18, .int v_19, .ref a_20, .ref a_21, .ref a_22, .ref a_23, .ref a_24, .int v_25, .ref a_26, .ref a_27, .ref a_28]) := by rw [hkc_357 a_2 (by rw [ka_2]; decide)]; exact hfo_12
    have hfr0 : ∀ b, kd b ≠ 2 → kd b ≠ 204 → kd b ≠ 205 → kd b ≠ 207 → kd b ≠ 558 → kd b ≠ 559 → kd b ≠ 568 → kd b ≠ 569 → kd b ≠ 570 → kd b ≠ 571 → kd b ≠ 572 → f_356 b = f b := fun b q2 q204 q205 q207 q558 q559 q568 q569 q570 q571 q572 => (hkc_357 b q2).trans (hfr0 b q2 q204 q205 q207 q558 q559 q568 q569 q570 q571 q572)
    have hfr2_4 : ∀ b, kd b = 2 → fldI (f_356 b) 4 = fldI (f b) 4 := fun b kb => (hfc_358 b kb).trans (hfr2_4 b kb)
    have hfr207_1 : ∀ b, kd b = 207 → fldI (f_356 b) 1 = fldI (f b) 1 := fun b kb => (congrArg (fun x => fldI x 1) (hkc_357 b (by rw [kb]; decide))).trans (hfr207_1 b kb)
    have hrr2_0 : ∀ b, kd b = 2 → fldR (f_356 b) 0 = fldR (f b) 0 := fun b kb => (hrc_362 b kb).trans (hrr2_0 b kb)
    have hrr2_3 : ∀ b, kd b = 2 → fldR (f_356 b) 3 = fldR (f b) 3 := fun b kb => (hrc_363 b kb).trans (hrr2_3 b kb)
    have hrr207_0 : ∀ b, kd b = 207 → fldR (f_356 b) 0 = fldR (f b) 0 := fun b kb => (congrArg (fun x => fldR x 0) (hkc_357 b (by rw [kb]; decide))).trans (hrr207_0 b kb)
    have hrr207_3 : ∀ b, kd b = 207 → fldR (f_356 b) 3 = fldR (f b) 3 := fun b kb => (congrArg (fun x => fldR x 3) (hkc_357 b (by rw [kb]; decide))).trans (hrr207_3 b kb)
    have hrr207_11 : ∀ b, kd b = 207 → fldR (f_356 b) 11 = fldR (f b) 11 := fun b kb => (congrArg (fun x => fldR x 11) (hkc_357 b (by rw [kb]; decide))).trans (hrr207_11 b kb)
    have hT0 : trel kd 207 566 568 573 204 f_356 a_2 := hT0.keep (fun b q => hkc_357 b (by rw [q]; decide)) (fun b q => hkc_357 b (by rw [q]; decide)) (fun b q => hkc_357 b (by rw [q]; decide)) (fun b q => hkc_357 b (by rw [q]; decide)) (fun b q => congrArg (fun x => fldI x 1) (hkc_357 b (by rw [q]; decide)))
    obtain ⟨a_367, v_368, v_369, a_370, v_371, v_372, v_373, v_374, v_375, v_376, hfo_366, ⟨ma_367, ka_367⟩, ⟨ma_370, ka_370⟩, bv_371, bv_372, bv_373, bv_374, bv_375⟩ := un_2 (hG _ mo0) ko0
    have bv_368 : ((-2147483648) ≤ v_368.toInt ∧ v_368.toInt ≤ 2147483647) := ⟨i32_lo _, i32_hi _⟩
    have bv_369 : ((-2147483648) ≤ v_369.toInt ∧ v_369.toInt ≤ 2147483647) := ⟨i32_lo _, i32_hi _⟩
    have bv_376 : ((-2147483648) ≤ v_376.toInt ∧ v_376.toInt ≤ 2147483647) := ⟨i32_lo _, i32_hi _⟩
    obtain rfl : a_2 = a_367 := by have hk9 := hrr2_0 o0 ko0; rw [hfo_366, hfo_1] at hk9; exact (Option.some.inj hk9).symm
    obtain rfl : a_5 = a_370 := by have hk9 := hrr2_3 o0 ko0; rw [hfo_366, hfo_1] at hk9; exact (Option.some.inj hk9).symm
    obtain rfl : v_6 = v_371 := by have hk9 := hfc_358 o0 ko0; rw [hfo_366, hfo_1] at hk9; exact (Option.some.inj hk9).symm
    obtain rfl : v_7 = v_372 := by have hk9 := hfc_359 o0 ko0; rw [hfo_366, hfo_1] at hk9; exact (Option.some.inj hk9).symm
    obtain rfl : v_9 = v_374 := by have hk9 := hfc_360 o0 ko0; rw [hfo_366, hfo_1] at hk9; exact (Option.some.inj hk9).symm
    obtain rfl : v_10 = v_375 := by have hk9 := hfc_361 o0 ko0; rw [hfo_366, hfo_1] at hk9; exact (Option.some.inj hk9).symm
    exact W.zret (v := x_355) (ty := .boolean) hx hb hr (zb_n (by constructor <;> omega)) (fun t ht hW => ⟨⟨x_355, f_356, rfl, ⟨hG, (by constructor <;> omega), hfr0, hfr2_4, hfr207_1, hrr2_0, hrr2_3, hrr207_0, hrr207_3, hrr207_11, (fun d9 h9 => by rw [hfo_366] at h9; obtain rfl := Option.some.inj h9; exact hT0)⟩, by rw [ht]; exact hP, va_K.moved hW.alike hK, pl_in hD⟩, hS.F ht⟩) hS.2.2 dX2_readRule_18
