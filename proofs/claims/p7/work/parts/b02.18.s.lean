set_option maxHeartbeats 8000000 in
set_option maxRecDepth 100000 in
theorem s_X4_clear_k204_t (l : Launch) (D : va_G) (cI cL cZ cR cG cH : ClassId) (Z : zT) (kd : Nat → Nat) (L : List Nat) (f : Nat → va_E) (hG : GI (okc cI cL cZ cR cG cH L kd) kd L f) (o0 : Nat) (mo0 : o0 ∈ L) (ko0 : kd o0 = 204) (p1 : Int32) (bp1 : (0 ≤ p1.toInt ∧ p1.toInt ≤ 8)) (p2 : Int32) (bp2 : (0 ≤ p2.toInt ∧ p2.toInt ≤ 8)) : mPV l D cI cL cZ cR cG cH Z yX4_clear cX4_clear 3 none 2 43 [.ref o0, .int p1, .int p2] L f (fun (f9 : Nat → va_E) => GI (okc cI cL cZ cR cG cH L kd) kd L f9 ∧ (∀ b, kd b ≠ 204 → kd b ≠ 205 → kd b ≠ 558 → kd b ≠ 559 → f9 b = f b) ∧ (∀ b, kd b = 204 → b ≠ o0 → fldI (f9 b) 1 = fldI (f b) 1) ∧ (∀ (w1 z1 : Int32) (w3 z3 : Int32), fldI (f o0) 1 = some w1 → fldI (f o0) 3 = some w3 → fldI (f9 o0) 1 = some z1 → fldI (f9 o0) 3 = some z3 → z1.toInt = p2.toInt ∧ z3.toInt = 0)) := by
  obtain ⟨dC, dI⟩ := D
  refine Met.ofW (cc := cX4_clear) (maxL := 3) (ret := none) (by decide) rfl ?_
  intro p e s m args below meth c s₁ B hml hv
  obtain ⟨rfl, hP, hK, hD0, hN, hZ⟩ := hv
  have hx := B.exec
  have hb := B.bytes
  have hr := B.returns
  have hU : ∀ w ∈ wsU, w.before _ s = true := fun w h => atoms_spec (ws := wU yX4_clear cX4_clear 3 none) B.pre w (List.mem_cons_of_mem _ h)
  have hown : s.vm.findClass RX4 = some m.cls := findClass_of_methodNamed B.named
  have hlocks := B.notSynchronized
  have hD := pl_in hD0
  have hS : va_S (fun q => q ∈ L) s.heap s.heap [] := va_S.rf
  have hl := lv_entry ([.ref o0, .int p1, .int p2]) (n := 3) (Nat.le_of_ble_eq_true rfl)
  rw [lg_entry_eq]
  generalize (lg_sl ([.ref o0, .int p1, .int p2]) ++ List.replicate (3 - (lg_sl ([.ref o0, .int p1, .int p2])).length) Slot.unset).toArray = ls at hl ⊢
  have hl : lv_has ls 3 [(0, .ref o0), (1, .int p1), (2, .int p2)] := hl
  have hfr0 : ∀ b, kd b ≠ 204 → kd b ≠ 205 → kd b ≠ 558 → kd b ≠ 559 → f b = f b := fun _ _ _ _ _ => rfl
  have hra204_1 : ∀ b, kd b = 204 → b ≠ o0 → fldI (f b) 1 = fldI (f b) 1 := fun _ _ _ => rfl
  obtain ⟨v_2, v_3, v_4, v_5, a_6, a_7, a_8, a_9, v_10, v_11, v_12, hfo_1, bv_2, bv_3, bv_4, bv_5, ⟨ma_6, ka_6⟩, ⟨ma_7, ka_7⟩, ⟨ma_8, ka_8⟩, ⟨ma_9, ka_9⟩⟩ := un_204 (hG _ mo0) ko0
  have bv_10 : ((-2147483648) ≤ v_10.toInt ∧ v_10.toInt ≤ 2147483647) := ⟨i32_lo _, i32_hi _⟩
  have bv_11 : ((-2147483648) ≤ v_11.toInt ∧ v_11.toInt ≤ 2147483647) := ⟨i32_lo _, i32_hi _⟩
  have bv_12 : ((-2147483648) ≤ v_12.toInt ∧ v_12.toInt ≤ 2147483647) := ⟨i32_lo _, i32_hi _⟩
  refine lv_aload_n hx hb dX4_clear_0 rfl (lv_at hl 0 rfl) ?_
  refine lv_iload_n hx hb dX4_clear_1 rfl (lv_at hl 1 rfl) ?_
  refine tk_putP (D := (dC, dI)) (ci := 4) (v := .int p1) (ty := .int) (C := RX4) (T := TX4) (N := 11) hx hb hU inlX4 tyX4 tyX4_ok nmX4 hown hK hP hD hS mo0 hfo_1 rfl 0 (by decide) (hU _ wd_407) (fun _ h9 => h9) rfl (by decide +kernel) rfl rfl (Nat.le_of_ble_eq_true rfl) dX4_clear_2 (fun H locs hP hD hS => ?_)
  obtain ⟨f_14, ef_14⟩ : ∃ y : Nat → va_E, y = va_up f o0 (.inr (4, [.int p1, .int v_3, .int v_4, .int v_5, .ref a_6, .ref a_7, .ref a_8, .ref a_9, .int v_10, .int v_11, .int v_12])) := ⟨_, rfl⟩
  have hP : va_P (dC, dI) vwCl (va_pl L f_14) H := by rw [ef_14]; exact hP
  have hD : va_D (fun q => q ∈ L) (va_pl L f_14) := by rw [ef_14]; exact hD
  have hG : GI (okc cI cL cZ cR cG cH L kd) kd L f_14 := by rw [ef_14]; exact hG.set o0 (mk_204 ko0 ⟨p1, v_3, v_4, v_5, a_6, a_7, a_8, a_9, v_10, v_11, v_12, rfl, (by constructor <;> omega), (by constructor <;> omega), (by constructor <;> omega), (by constructor <;> omega), ⟨ma_6, ka_6⟩, ⟨ma_7, ka_7⟩, ⟨ma_8, ka_8⟩, ⟨ma_9, ka_9⟩⟩)
  have hfr0 : ∀ b, kd b ≠ 204 → kd b ≠ 205 → kd b ≠ 558 → kd b ≠ 559 → f_14 b = f b := fun b q204 q205 q558 q559 => (congrFun ef_14 b).trans ((up_ne (fun e9 => q204 (by rw [e9]; exact ko0))).trans (hfr0 b q204 q205 q558 q559))
  have hra204_1 : ∀ b, kd b = 204 → b ≠ o0 → fldI (f_14 b) 1 = fldI (f b) 1 := fun b kb nb => (congrArg (fun x => fldI x 1) ((congrFun ef_14 b).trans (up_ne (nb)))).trans (hra204_1 b kb nb)
  have hfo_15 : f_14 o0 = .inr (4, [.int p1, .int v_3, .int v_4, .int v_5, .ref a_6, .ref a_7, .ref a_8, .ref a_9, .int v_10, .int v_11, .int v_12]) := by rw [ef_14]; exact up_self
  refine lv_aload_n hx hb dX4_clear_5 rfl (lv_at hl 0 rfl) ?_
  refine lv_iload_n hx hb dX4_clear_6 rfl (lv_at hl 2 rfl) ?_
  refine tk_putP (D := (dC, dI)) (ci := 4) (v := .int p2) (ty := .int) (C := RX4) (T := TX4) (N := 11) hx hb hU inlX4 tyX4 tyX4_ok nmX4 hown hK hP hD hS mo0 hfo_15 rfl 1 (by decide) (hU _ wd_408) (fun _ h9 => h9) rfl (by decide +kernel) rfl rfl (Nat.le_of_ble_eq_true rfl) dX4_clear_7 (fun H locs hP hD hS => ?_)
  obtain ⟨f_17, ef_17⟩ : ∃ y : Nat → va_E, y = va_up f_14 o0 (.inr (4, [.int p1, .int p2, .int v_4, .int v_5, .ref a_6, .ref a_7, .ref a_8, .ref a_9, .int v_10, .int v_11, .int v_12])) := ⟨_, rfl⟩
  have hP : va_P (dC, dI) vwCl (va_pl L f_17) H := by rw [ef_17]; exact hP
  have hD : va_D (fun q => q ∈ L) (va_pl L f_17) := by rw [ef_17]; exact hD
  have hG : GI (okc cI cL cZ cR cG cH L kd) kd L f_17 := by rw [ef_17]; exact hG.set o0 (mk_204 ko0 ⟨p1, p2, v_4, v_5, a_6, a_7, a_8, a_9, v_10, v_11, v_12, rfl, (by constructor <;> omega), (by constructor <;> omega), (by constructor <;> omega), (by constructor <;> omega), ⟨ma_6, ka_6⟩, ⟨ma_7, ka_7⟩, ⟨ma_8, ka_8⟩, ⟨ma_9, ka_9⟩⟩)
  have hfr0 : ∀ b, kd b ≠ 204 → kd b ≠ 205 → kd b ≠ 558 → kd b ≠ 559 → f_17 b = f b := fun b q204 q205 q558 q559 => (congrFun ef_17 b).trans ((up_ne (fun e9 => q204 (by rw [e9]; exact ko0))).trans (hfr0 b q204 q205 q558 q559))
  have hra204_1 : ∀ b, kd b = 204 → b ≠ o0 → fldI (f_17 b) 1 = fldI (f b) 1 := fun b kb nb => (congrArg (fun x => fldI x 1) ((congrFun ef_17 b).trans (up_ne (nb)))).trans (hra204_1 b kb nb)
  have hfo_18 : f_17 o0 = .inr (4, [.int p1, .int p2, .int v_4, .int v_5, .ref a_6, .ref a_7, .ref a_8, .ref a_9, .int v_10, .int v_11, .int v_12]) := by rw [ef_17]; exact up_self
  refine lv_aload_n hx hb dX4_clear_10 rfl (lv_at hl 0 rfl) ?_
  refine lv_iconst (v := 0) hx hb dX4_clear_11 (by decide) ?_
  refine tk_putP (D := (dC, dI)) (ci := 4) (v := .int 0) (ty := .int) (C := RX4) (T := TX4) (N := 11) hx hb hU inlX4 tyX4 tyX4_ok nmX4 hown hK hP hD hS mo0 hfo_18 rfl 2 (by decide) (hU _ wd_409) (fun _ h9 => h9) rfl (by decide +kernel) rfl rfl (Nat.le_of_ble_eq_true rfl) dX4_clear_12 (fun H locs hP hD hS => ?_)
  obtain ⟨f_20, ef_20⟩ : ∃ y : Nat → va_E, y = va_up f_17 o0 (.inr (4, [.int p1, .int p2, .int 0, .int v_5, .ref a_6, .ref a_7, .ref a_8, .ref a_9, .int v_10, .int v_11, .int v_12])) := ⟨_, rfl⟩
  have hP : va_P (dC, dI) vwCl (va_pl L f_20) H := by rw [ef_20]; exact hP
  have hD : va_D (fun q => q ∈ L) (va_pl L f_20) := by rw [ef_20]; exact hD
  have hG : GI (okc cI cL cZ cR cG cH L kd) kd L f_20 := by rw [ef_20]; exact hG.set o0 (mk_204 ko0 ⟨p1, p2, 0, v_5, a_6, a_7, a_8, a_9, v_10, v_11, v_12, rfl, (by constructor <;> omega), (by constructor <;> omega), (by decide), (by constructor <;> omega), ⟨ma_6, ka_6⟩, ⟨ma_7, ka_7⟩, ⟨ma_8, ka_8⟩, ⟨ma_9, ka_9⟩⟩)
  have hfr0 : ∀ b, kd b ≠ 204 → kd b ≠ 205 → kd b ≠ 558 → kd b ≠ 559 → f_20 b = f b := fun b q204 q205 q558 q559 => (congrFun ef_20 b).trans ((up_ne (fun e9 => q204 (by rw [e9]; exact ko0))).trans (hfr0 b q204 q205 q558 q559))
  have hra204_1 : ∀ b, kd b = 204 → b ≠ o0 → fldI (f_20 b) 1 = fldI (f b) 1 := fun b kb nb => (congrArg (fun x => fldI x 1) ((congrFun ef_20 b).trans (up_ne (nb)))).trans (hra204_1 b kb nb)
  have hfo_21 : f_20 o0 = .inr (4, [.int p1, .int p2, .int 0, .int v_5, .ref a_6, .ref a_7, .ref a_8, .ref a_9, .int v_10, .int v_11, .int v_12]) := by rw [ef_20]; exact up_self
  refine lv_aload_n hx hb dX4_clear_15 rfl (lv_at hl 0 rfl) ?_
  refine lv_iconst (v := 0) hx hb dX4_clear_16 (by decide) ?_
  refine tk_putP (D := (dC, dI)) (ci := 4) (v := .int 0) (ty := .int) (C := RX4) (T := TX4) (N := 11) hx hb hU inlX4 tyX4 tyX4_ok nmX4 hown hK hP hD hS mo0 hfo_21 rfl 3 (by decide) (hU _ wd_410) (fun _ h9 => h9) rfl (by decide +kernel) rfl rfl (Nat.le_of_ble_eq_true rfl) dX4_clear_17 (fun H locs hP hD hS => ?_)
  obtain ⟨f_23, ef_23⟩ : ∃ y : Nat → va_E, y = va_up f_20 o0 (.inr (4, [.int p1, .int p2, .int 0, .int 0, .ref a_6, .ref a_7, .ref a_8, .ref a_9, .int v_10, .int v_11, .int v_12])) := ⟨_, rfl⟩
  have hP : va_P (dC, dI) vwCl (va_pl L f_23) H := by rw [ef_23]; exact hP
  have hD : va_D (fun q => q ∈ L) (va_pl L f_23) := by rw [ef_23]; exact hD
  have hG : GI (okc cI cL cZ cR cG cH L kd) kd L f_23 := by rw [ef_23]; exact hG.set o0 (mk_204 ko0 ⟨p1, p2, 0, 0, a_6, a_7, a_8, a_9, v_10, v_11, v_12, rfl, (by constructor <;> omega), (by constructor <;> omega), (by decide), (by decide), ⟨ma_6, ka_6⟩, ⟨ma_7, ka_7⟩, ⟨ma_8, ka_8⟩, ⟨ma_9, ka_9⟩⟩)
  have hfr0 : ∀ b, kd b ≠ 204 → kd b ≠ 205 → kd b ≠ 558 → kd b ≠ 559 → f_23 b = f b := fun b q204 q205 q558 q559 => (congrFun ef_23 b).trans ((up_ne (fun e9 => q204 (by rw [e9]; exact ko0))).trans (hfr0 b q204 q205 q558 q559))
  have hra204_1 : ∀ b, kd b = 204 → b ≠ o0 → fldI (f_23 b) 1 = fldI (f b) 1 := fun b kb nb => (congrArg (fun x => fldI x 1) ((congrFun ef_23 b).trans (up_ne (nb)))).trans (hra204_1 b kb nb)
  have hfo_24 : f_23 o0 = .inr (4, [.int p1, .int p2, .int 0, .int 0, .ref a_6, .ref a_7, .ref a_8, .ref a_9, .int v_10, .int v_11, .int v_12]) := by rw [ef_23]; exact up_self
  refine lv_aload_n hx hb dX4_clear_20 rfl (lv_at hl 0 rfl) ?_
  refine tk_getP (D := (dC, dI)) (ci := 4) (v := .ref a_6) (C := RX4) (T := TX4) (N := 11) hx hb hU inlX4 hown hK hP mo0 hfo_24 rfl 4 (by decide) (hU _ wd_103) (fun _ h9 => h9) rfl dX4_clear_21 ?_
  obtain ⟨a_26, a_27, a_28, v_29, v_30, v_31, hfo_25, ⟨ma_26, ka_26⟩, ⟨ma_27, ka_27⟩, ⟨ma_28, ka_28⟩⟩ := un_205 (hG _ ma_6) ka_6
  have bv_29 : ((-2147483648) ≤ v_29.toInt ∧ v_29.toInt ≤ 2147483647) := ⟨i32_lo _, i32_hi _⟩
  have bv_30 : ((-2147483648) ≤ v_30.toInt ∧ v_30.toInt ≤ 2147483647) := ⟨i32_lo _, i32_hi _⟩
  have bv_31 : ((-2147483648) ≤ v_31.toInt ∧ v_31.toInt ≤ 2147483647) := ⟨i32_lo _, i32_hi _⟩
  refine tk_VvP (As := []) (rest := []) (n := 0) hx hb hml hown hU hN hZ (s_X5_clear_k205 l (dC, dI) cI cL cZ cR cG cH Z kd L f_23 hG a_6 ma_6 ka_6) wd_411 wd_412 wd_413 wd_102 wd_414 (by decide +kernel) ⟨Nat.le_of_ble_eq_true rfl, Nat.le_of_ble_eq_true rfl⟩ hK hP hD hS ma_6 hfo_25 5 rfl rfl rfl hl.1 rfl (Nat.le_of_ble_eq_true rfl) dX4_clear_24 ⟨Nat.le_of_ble_eq_true rfl, Nat.le_of_ble_eq_true rfl⟩ (fun f_33 H locs hw hP hD hS => ?_)
  obtain ⟨hG, hkc_34⟩ := hw
  have hfo_36 : f_33 o0 = .inr (4, [.int p1, .int p2, .int 0, .int 0, .ref a_6, .ref a_7, .ref a_8, .ref a_9, .int v_10, .int v_11, .int v_12]) := by rw [hkc_34 o0 (by rw [ko0]; decide) (by rw [ko0]; decide) (by rw [ko0]; decide)]; exact hfo_24
  have hfr0 : ∀ b, kd b ≠ 204 → kd b ≠ 205 → kd b ≠ 558 → kd b ≠ 559 → f_33 b = f b := fun b q204 q205 q558 q559 => (hkc_34 b q205 q558 q559).trans (hfr0 b q204 q205 q558 q559)
  have hra204_1 : ∀ b, kd b = 204 → b ≠ o0 → fldI (f_33 b) 1 = fldI (f b) 1 := fun b kb nb => (congrArg (fun x => fldI x 1) (hkc_34 b (by rw [kb]; decide) (by rw [kb]; decide) (by rw [kb]; decide))).trans (hra204_1 b kb nb)
  refine lv_aload_n hx hb dX4_clear_27 rfl (lv_at hl 0 rfl) ?_
  refine tk_getP (D := (dC, dI)) (ci := 4) (v := .ref a_7) (C := RX4) (T := TX4) (N := 11) hx hb hU inlX4 hown hK hP mo0 hfo_36 rfl 5 (by decide) (hU _ wd_104) (fun _ h9 => h9) rfl dX4_clear_28 ?_
  obtain ⟨a_38, a_39, a_40, v_41, v_42, v_43, hfo_37, ⟨ma_38, ka_38⟩, ⟨ma_39, ka_39⟩, ⟨ma_40, ka_40⟩⟩ := un_205 (hG _ ma_7) ka_7
  have bv_41 : ((-2147483648) ≤ v_41.toInt ∧ v_41.toInt ≤ 2147483647) := ⟨i32_lo _, i32_hi _⟩
  have bv_42 : ((-2147483648) ≤ v_42.toInt ∧ v_42.toInt ≤ 2147483647) := ⟨i32_lo _, i32_hi _⟩
  have bv_43 : ((-2147483648) ≤ v_43.toInt ∧ v_43.toInt ≤ 2147483647) := ⟨i32_lo _, i32_hi _⟩
  refine tk_VvP (As := []) (rest := []) (n := 0) hx hb hml hown hU hN hZ (s_X5_clear_k205 l (dC, dI) cI cL cZ cR cG cH Z kd L f_33 hG a_7 ma_7 ka_7) wd_411 wd_412 wd_413 wd_102 wd_414 (by decide +kernel) ⟨Nat.le_of_ble_eq_true rfl, Nat.le_of_ble_eq_true rfl⟩ hK hP hD hS ma_7 hfo_37 5 rfl rfl rfl hl.1 rfl (Nat.le_of_ble_eq_true rfl) dX4_clear_31 ⟨Nat.le_of_ble_eq_true rfl, Nat.le_of_ble_eq_true rfl⟩ (fun f_45 H locs hw hP hD hS => ?_)
  obtain ⟨hG, hkc_46⟩ := hw
  have hfo_48 : f_45 o0 = .inr (4, [.int p1, .int p2, .int 0, .int 0, .ref a_6, .ref a_7, .ref a_8, .ref a_9, .int v_10, .int v_11, .int v_12]) := by rw [hkc_46 o0 (by rw [ko0]; decide) (by rw [ko0]; decide) (by rw [ko0]; decide)]; exact hfo_36
  have hfr0 : ∀ b, kd b ≠ 204 → kd b ≠ 205 → kd b ≠ 558 → kd b ≠ 559 → f_45 b = f b := fun b q204 q205 q558 q559 => (hkc_46 b q205 q558 q559).trans (hfr0 b q204 q205 q558 q559)
  have hra204_1 : ∀ b, kd b = 204 → b ≠ o0 → fldI (f_45 b) 1 = fldI (f b) 1 := fun b kb nb => (congrArg (fun x => fldI x 1) (hkc_46 b (by rw [kb]; decide) (by rw [kb]; decide) (by rw [kb]; decide))).trans (hra204_1 b kb nb)
  exact W.vret hx hb hr (fun t ht hW => ⟨⟨f_45, rfl, ⟨hG, hfr0, hra204_1, (by intro w1 z1 w3 z3 e1 e3 d1 d3; rw [hfo_1] at e1 e3; rw [hfo_48] at d1 d3; obtain rfl := Option.some.inj e1; obtain rfl := Option.some.inj d1; obtain rfl := Option.some.inj e3; obtain rfl := Option.some.inj d3; (try rw [ti_0]) <;> omega)⟩, by rw [ht]; exact hP, va_K.moved hW.alike hK, pl_in hD⟩, hS.F ht⟩) hS.2.2 dX4_clear_34
set_option maxHeartbeats 8000000 in
set_option maxRecDepth 100000 in
theorem s_X2_readRule_k2 (l : Launch) (D : va_G) (cI cL cZ cR cG cH : ClassId) (Z : zT) (kd : Nat → Nat) (L : List Nat) (f : Nat → va_E) (hG : GI (okc cI cL cZ cR cG cH L kd) kd L f) (o0 : Nat) (mo0 : o0 ∈ L) (ko0 : kd o0 = 2) (p1 : Int32) (hxtr0 : ∀ d9, fldR (f o0) 0 = some d9 → trel kd 207 566 568 573 204 f d9) : mPI l D cI cL cZ cR cG cH Z yX2_readRule cX2_readRule 4 (some .boolean) 6 129 [.ref o0, .int p1] L f (fun (r : Int32) (f9 : Nat → va_E) => GI (okc cI cL cZ cR cG cH L kd) kd L f9 ∧ (0 ≤ r.toInt ∧ r.toInt ≤ 1) ∧ (∀ b, kd b ≠ 2 → kd b ≠ 204 → kd b ≠ 205 → kd b ≠ 207 → kd b ≠ 558 → kd b ≠ 559 → kd b ≠ 568 → kd b ≠ 569 → kd b ≠ 570 → kd b ≠ 571 → kd b ≠ 572 → f9 b = f b) ∧ (∀ b, kd b = 2 → fldI (f9 b) 4 = fldI (f b) 4) ∧ (∀ b, kd b = 207 → fldI (f9 b) 1 = fldI (f b) 1) ∧ (∀ b, kd b = 2 → fldR (f9 b) 0 = fldR (f b) 0) ∧ (∀ b, kd b = 2 → fldR (f9 b) 3 = fldR (f b) 3) ∧ (∀ b, kd b = 207 → fldR (f9 b) 0 = fldR (f b) 0) ∧ (∀ b, kd b = 207 → fldR (f9 b) 3 = fldR (f b) 3) ∧ (∀ b, kd b = 207 → fldR (f9 b) 11 = fldR (f b) 11) ∧ (∀ (w5 z5 : Int32), fldI (f o0) 5 = some w5 → fldI (f9 o0) 5 = some z5 → w5.toInt ≤ z5.toInt) ∧ (∀ d9, fldR (f9 o0) 0 = some d9 → trel kd 207 566 568 573 204 f9 d9)) := by
  obtain ⟨dC, dI⟩ := D
  refine Met.ofW (cc := cX2_readRule) (maxL := 4) (ret := (some .boolean)) (by decide) rfl ?_
  intro p e s m args below meth c s₁ B hml hv
  obtain ⟨rfl, hP, hK, hD0, hN, hZ⟩ := hv
  have hx := B.exec
  have hb := B.bytes
  have hr := B.returns
  have hU : ∀ w ∈ wsU, w.before _ s = true := fun w h => atoms_spec (ws := wU yX2_readRule cX2_readRule 4 (some .boolean)) B.pre w (List.mem_cons_of_mem _ h)
  have hown : s.vm.findClass RX2 = some m.cls := findClass_of_methodNamed B.named
  have hlocks := B.notSynchronized
  have hD := pl_in hD0
  have hS : va_S (fun q => q ∈ L) s.heap s.heap [] := va_S.rf
  have hl := lv_entry ([.ref o0, .int p1]) (n := 4) (Nat.le_of_ble_eq_true rfl)
  rw [lg_entry_eq]
  generalize (lg_sl ([.ref o0, .int p1]) ++ List.replicate (4 - (lg_sl ([.ref o0, .int p1])).length) Slot.unset).toArray = ls at hl ⊢
  have hl : lv_has ls 4 [(0, .ref o0), (1, .int p1)] := hl
  have bp1 : ((-2147483648) ≤ p1.toInt ∧ p1.toInt ≤ 2147483647) := ⟨i32_lo _, i32_hi _⟩
  have hfr0 : ∀ b, kd b ≠ 2 → kd b ≠ 204 → kd b ≠ 205 → kd b ≠ 207 → kd b ≠ 558 → kd b ≠ 559 → kd b ≠ 568 → kd b ≠ 569 → kd b ≠ 570 → kd b ≠ 571 → kd b ≠ 572 → f b = f b := fun _ _ _ _ _ _ _ _ _ _ _ _ => rfl
  have hfr2_4 : ∀ b, kd b = 2 → fldI (f b) 4 = fldI (f b) 4 := fun _ _ => rfl
  have hfr207_1 : ∀ b, kd b = 207 → fldI (f b) 1 = fldI (f b) 1 := fun _ _ => rfl
  have hrr2_0 : ∀ b, kd b = 2 → fldR (f b) 0 = fldR (f b) 0 := fun _ _ => rfl
  have hrr2_3 : ∀ b, kd b = 2 → fldR (f b) 3 = fldR (f b) 3 := fun _ _ => rfl
  have hrr207_0 : ∀ b, kd b = 207 → fldR (f b) 0 = fldR (f b) 0 := fun _ _ => rfl
  have hrr207_3 : ∀ b, kd b = 207 → fldR (f b) 3 = fldR (f b) 3 := fun _ _ => rfl
  have hrr207_11 : ∀ b, kd b = 207 → fldR (f b) 11 = fldR (f b) 11 := fun _ _ => rfl
  obtain ⟨a_2, v_3, v_4, a_5, v_6, v_7, v_8, v_9, v_10, v_11, hfo_1, ⟨ma_2, ka_2⟩, ⟨ma_5, ka_5⟩, bv_6, bv_7, bv_8, bv_9, bv_10⟩ := un_2 (hG _ mo0) ko0
  have bv_3 : ((-2147483648) ≤ v_3.toInt ∧ v_3.toInt ≤ 2147483647) := ⟨i32_lo _, i32_hi _⟩
  have bv_4 : ((-2147483648) ≤ v_4.toInt ∧ v_4.toInt ≤ 2147483647) := ⟨i32_lo _, i32_hi _⟩
  have bv_11 : ((-2147483648) ≤ v_11.toInt ∧ v_11.toInt ≤ 2147483647) := ⟨i32_lo _, i32_hi _⟩
  have hT0 := hxtr0 a_2 (by rw [hfo_1]; rfl)
  refine lv_aload_n hx hb dX2_readRule_0 rfl (lv_at hl 0 rfl) ?_
  refine tk_getP (D := (dC, dI)) (ci := 2) (v := .ref a_2) (C := RX2) (T := TX2) (N := 10) hx hb hU inlX2 hown hK hP mo0 hfo_1 rfl 0 (by decide) (hU _ wd_150) (fun _ h9 => h9) rfl dX2_readRule_1 ?_
  obtain ⟨a_13, v_14, a_15, a_16, a_17, a_18, v_19, a_20, a_21, a_22, a_23, a_24, v_25, a_26, a_27, a_28, hfo_12, ⟨ma_13, ka_13⟩, bv_14, ⟨ma_15, ka_15⟩, ⟨ma_16, ka_16⟩, ⟨ma_17, ka_17⟩, ⟨ma_18, ka_18⟩, bv_19, ⟨ma_20, ka_20⟩, ⟨ma_21, ka_21⟩, ⟨ma_22, ka_22⟩, ⟨ma_23, ka_23⟩, ⟨ma_24, ka_24⟩, bv_25, ⟨ma_26, ka_26⟩, ⟨ma_27, ka_27⟩, ⟨ma_28, ka_28⟩⟩ := un_207 (hG _ ma_2) ka_2
  refine tk_getP (D := (dC, dI)) (ci := 7) (v := .int v_25) (C := RX7) (T := TX7) (N := 16) hx hb hU inlX7 hown hK hP ma_2 hfo_12 rfl 12 (by decide) (hU _ wd_400) (fun _ h9 => h9) rfl dX2_readRule_4 ?_
  refine lv_bipush (v := 8) hx hb dX2_readRule_7 (by decide) ?_
  refine lv_icmp_ne (tgt := 19) hx hb dX2_readRule_9 (by decide) (fun c_29 => ?_) (fun c_29 => ?_)
  · skip
    rw [← Int32.toInt_inj, ti_8] at c_29
    refine lv_aload_n hx hb dX2_readRule_19 rfl (lv_at hl 0 rfl) ?_
    refine tk_ViP (As := []) (rest := []) (n := 0) hx hb hml hown hU hN hZ (s_X2_readPair_k2 l (dC, dI) cI cL cZ cR cG cH Z kd L f hG o0 mo0 ko0 (fun d9 h9 => by rw [hfo_1] at h9; obtain rfl := Option.some.inj h9; exact hT0)) wd_369 wd_370 wd_371 wd_33 wd_372 (by decide +kernel) ⟨Nat.le_of_ble_eq_true rfl, Nat.le_of_ble_eq_true rfl⟩ hK hP hD hS mo0 hfo_1 2 rfl rfl rfl hl.1 rfl (Nat.le_of_ble_eq_true rfl) dX2_readRule_20 ⟨Nat.le_of_ble_eq_true rfl, Nat.le_of_ble_eq_true rfl⟩ (fun x_30 f_31 H locs hw hP hD hS => ?_)
    obtain ⟨hG, bx_30, hkc_32, hfc_33, hfc_34, hfc_35, hrc_36, hrc_37, hrc_38, hrc_39, hrc_40, hpost_41, hxp_42, hTc_43⟩ := hw
    have hfr0 : ∀ b, kd b ≠ 2 → kd b ≠ 204 → kd b ≠ 205 → kd b ≠ 207 → kd b ≠ 558 → kd b ≠ 559 → kd b ≠ 568 → kd b ≠ 569 → kd b ≠ 570 → kd b ≠ 571 → kd b ≠ 572 → f_31 b = f b := fun b q2 q204 q205 q207 q558 q559 q568 q569 q570 q571 q572 => (hkc_32 b q2 q207 q568 q569 q570 q571 q572).trans (hfr0 b q2 q204 q205 q207 q558 q559 q568 q569 q570 q571 q572)
    have hfr2_4 : ∀ b, kd b = 2 → fldI (f_31 b) 4 = fldI (f b) 4 := fun b kb => (hfc_33 b kb).trans (hfr2_4 b kb)
    have hfr207_1 : ∀ b, kd b = 207 → fldI (f_31 b) 1 = fldI (f b) 1 := fun b kb => (hfc_34 b kb).trans (hfr207_1 b kb)
    have hrr2_0 : ∀ b, kd b = 2 → fldR (f_31 b) 0 = fldR (f b) 0 := fun b kb => (hrc_36 b kb).trans (hrr2_0 b kb)
    have hrr2_3 : ∀ b, kd b = 2 → fldR (f_31 b) 3 = fldR (f b) 3 := fun b kb => (hrc_37 b kb).trans (hrr2_3 b kb)
    have hrr207_0 : ∀ b, kd b = 207 → fldR (f_31 b) 0 = fldR (f b) 0 := fun b kb => (hrc_38 b kb).trans (hrr207_0 b kb)
    have hrr207_3 : ∀ b, kd b = 207 → fldR (f_31 b) 3 = fldR (f b) 3 := fun b kb => (hrc_39 b kb).trans (hrr207_3 b kb)
    have hrr207_11 : ∀ b, kd b = 207 → fldR (f_31 b) 11 = fldR (f b) 11 := fun b kb => (hrc_40 b kb).trans (hrr207_11 b kb)
    obtain ⟨a_46, v_47, v_48, a_49, v_50, v_51, v_52, v_53, v_54, v_55, hfo_45, ⟨ma_46, ka_46⟩, ⟨ma_49, ka_49⟩, bv_50, bv_51, bv_52, bv_53, bv_54⟩ := un_2 (hG _ mo0) ko0
    have bv_47 : ((-2147483648) ≤ v_47.toInt ∧ v_47.toInt ≤ 2147483647) := ⟨i32_lo _, i32_hi _⟩
    have bv_48 : ((-2147483648) ≤ v_48.toInt ∧ v_48.toInt ≤ 2147483647) := ⟨i32_lo _, i32_hi _⟩
    have bv_55 : ((-2147483648) ≤ v_55.toInt ∧ v_55.toInt ≤ 2147483647) := ⟨i32_lo _, i32_hi _⟩
    obtain rfl : a_2 = a_46 := by have hk9 := hrr2_0 o0 ko0; rw [hfo_45, hfo_1] at hk9; exact (Option.some.inj hk9).symm
    obtain rfl : a_5 = a_49 := by have hk9 := hrr2_3 o0 ko0; rw [hfo_45, hfo_1] at hk9; exact (Option.some.inj hk9).symm
    obtain rfl : v_6 = v_50 := by have hk9 := hfc_33 o0 ko0; rw [hfo_45, hfo_1] at hk9; exact (Option.some.inj hk9).symm
    have hqhpost_41 := hpost_41 v_7 v_51 (by rw [hfo_1]; rfl) (by rw [hfo_45]; rfl)
    obtain ⟨a_57, v_58, a_59, a_60, a_61, a_62, v_63, a_64, a_65, a_66, a_67, a_68, v_69, a_70, a_71, a_72, hfo_56, ⟨ma_57, ka_57⟩, bv_58, ⟨ma_59, ka_59⟩, ⟨ma_60, ka_60⟩, ⟨ma_61, ka_61⟩, ⟨ma_62, ka_62⟩, bv_63, ⟨ma_64, ka_64⟩, ⟨ma_65, ka_65⟩, ⟨ma_66, ka_66⟩, ⟨ma_67, ka_67⟩, ⟨ma_68, ka_68⟩, bv_69, ⟨ma_70, ka_70⟩, ⟨ma_71, ka_71⟩, ⟨ma_72, ka_72⟩⟩ := un_207 (hG _ ma_2) ka_2
    obtain rfl : a_13 = a_57 := by have hk9 := hrr207_0 a_2 ka_2; rw [hfo_56, hfo_12] at hk9; exact (Option.some.inj hk9).symm
    obtain rfl : a_16 = a_60 := by have hk9 := hrr207_3 a_2 ka_2; rw [hfo_56, hfo_12] at hk9; exact (Option.some.inj hk9).symm
    obtain rfl : a_24 = a_68 := by have hk9 := hrr207_11 a_2 ka_2; rw [hfo_56, hfo_12] at hk9; exact (Option.some.inj hk9).symm
    obtain rfl : v_14 = v_58 := by have hk9 := hfc_34 a_2 ka_2; rw [hfo_56, hfo_12] at hk9; exact (Option.some.inj hk9).symm
    obtain rfl : v_25 = v_69 := by have hk9 := hfc_35 a_2 ka_2; rw [hfo_56, hfo_12] at hk9; exact (Option.some.inj hk9).symm
    have hT_73 := hTc_43 a_2 (by rw [hfo_45]; rfl)
    have hrsx_30 := hxp_42 a_2 v_14 v_54 (by rw [hfo_45]; rfl) (by rw [hfo_56]; rfl) (by rw [hfo_45]; rfl)
    refine lv_if_ne (tgt := 28) hx hb dX2_readRule_23 (by decide) (fun c_74 => ?_) (fun c_74 => ?_)
    · skip
      rw [← Int32.toInt_inj, ti_0] at c_74
      refine lv_aload_n hx hb dX2_readRule_28 rfl (lv_at hl 0 rfl) ?_
      refine tk_getP (D := (dC, dI)) (ci := 2) (v := .ref a_2) (C := RX2) (T := TX2) (N := 10) hx hb hU inlX2 hown hK hP mo0 hfo_45 rfl 0 (by decide) (hU _ wd_150) (fun _ h9 => h9) rfl dX2_readRule_29 ?_
      refine tk_getP (D := (dC, dI)) (ci := 7) (v := .ref a_24) (C := RX7) (T := TX7) (N := 16) hx hb hU inlX7 hown hK hP ma_2 hfo_56 rfl 11 (by decide) (hU _ wd_401) (fun _ h9 => h9) rfl dX2_readRule_32 ?_
      refine lv_aload_n hx hb dX2_readRule_35 rfl (lv_at hl 0 rfl) ?_
      refine tk_getP (D := (dC, dI)) (ci := 2) (v := .ref a_2) (C := RX2) (T := TX2) (N := 10) hx hb hU inlX2 hown hK hP mo0 hfo_45 rfl 0 (by decide) (hU _ wd_150) (fun _ h9 => h9) rfl dX2_readRule_36 ?_
      refine tk_getP (D := (dC, dI)) (ci := 7) (v := .int v_25) (C := RX7) (T := TX7) (N := 16) hx hb hU inlX7 hown hK hP ma_2 hfo_56 rfl 12 (by decide) (hU _ wd_400) (fun _ h9 => h9) rfl dX2_readRule_39 ?_
      obtain ⟨g_76, hfo_75, hbg_76⟩ := un_573 (hG _ ma_24) ka_24
      obtain ⟨a_77, hga_77, ma_77, ka_77⟩ := hbg_76 (Int32.toNatClampNeg v_25) (in_lt (vp_in_iff.mpr (by constructor <;> omega)))
      refine tk_aldP hx hb hK hP 3 ma_24 hfo_75 rfl (vp_in_iff.mpr (by constructor <;> omega)) hga_77 dX2_readRule_42 ?_
      refine lv_astore_n (lv' := [(2, .ref a_77), (0, .ref o0), (1, .int p1)]) hx hb dX2_readRule_43 rfl hl (by decide) rfl (fun ls hl => ?_)
      refine lv_aload_n hx hb dX2_readRule_44 rfl (lv_at hl 0 rfl) ?_
      refine lv_aload_n hx hb dX2_readRule_45 rfl (lv_at hl 1 rfl) ?_
      refine tk_getP (D := (dC, dI)) (ci := 2) (v := .int v_53) (C := RX2) (T := TX2) (N := 10) hx hb hU inlX2 hown hK hP mo0 hfo_45 rfl 7 (by decide) (hU _ wd_374) (fun _ h9 => h9) rfl dX2_readRule_46 ?_
      refine lv_aload_n hx hb dX2_readRule_49 rfl (lv_at hl 1 rfl) ?_
      refine tk_getP (D := (dC, dI)) (ci := 2) (v := .int v_54) (C := RX2) (T := TX2) (N := 10) hx hb hU inlX2 hown hK hP mo0 hfo_45 rfl 8 (by decide) (hU _ wd_375) (fun _ h9 => h9) rfl dX2_readRule_50 ?_
      obtain ⟨v_79, v_80, v_81, v_82, a_83, a_84, a_85, a_86, v_87, v_88, v_89, hfo_78, bv_79, bv_80, bv_81, bv_82, ⟨ma_83, ka_83⟩, ⟨ma_84, ka_84⟩, ⟨ma_85, ka_85⟩, ⟨ma_86, ka_86⟩⟩ := un_204 (hG _ ma_77) ka_77
      have bv_87 : ((-2147483648) ≤ v_87.toInt ∧ v_87.toInt ≤ 2147483647) := ⟨i32_lo _, i32_hi _⟩
      have bv_88 : ((-2147483648) ≤ v_88.toInt ∧ v_88.toInt ≤ 2147483647) := ⟨i32_lo _, i32_hi _⟩
      have bv_89 : ((-2147483648) ≤ v_89.toInt ∧ v_89.toInt ≤ 2147483647) := ⟨i32_lo _, i32_hi _⟩
      refine tk_VvP (As := [.int v_53, .int v_54]) (rest := []) (n := 2) hx hb hml hown hU hN hZ (s_X4_clear_k204_t l (dC, dI) cI cL cZ cR cG cH Z kd L f_31 hG a_77 ma_77 ka_77 v_53 (by constructor <;> omega) v_54 (by constructor <;> omega)) wd_403 wd_404 wd_405 wd_90 wd_406 (by decide +kernel) ⟨Nat.le_of_ble_eq_true rfl, Nat.le_of_ble_eq_true rfl⟩ hK hP hD hS ma_77 hfo_78 4 rfl rfl rfl hl.1 rfl (Nat.le_of_ble_eq_true rfl) dX2_readRule_53 ⟨Nat.le_of_ble_eq_true rfl, Nat.le_of_ble_eq_true rfl⟩ (fun f_91 H locs hw hP hD hS => ?_)
      obtain ⟨hG, hkc_92, hac_93, hpost_94⟩ := hw
      have hfo_96 : f_91 o0 = .inr (2, [.ref a_2, .int v_47, .int v_48, .ref a_5, .int v_6, .int v_51, .int v_52, .int v_53, .int v_54, .int v_55]) := by rw [hkc_92 o0 (by rw [ko0]; decide) (by rw [ko0]; decide) (by rw [ko0]; decide) (by rw [ko0]; decide)]; exact hfo_45
      have hfo_97 : f_91 a_2 = .inr (7, [.ref a_13, .int v_14, .ref a_59, .ref a_16, .ref a_61, .ref a_62, .int v_63, .ref a_64, .ref a_65, .ref a_66, .ref a_67, .ref a_24, .int v_25, .ref a_70, .ref a_71, .ref a_72]) := by rw [hkc_92 a_2 (by rw [ka_2]; decide) (by rw [ka_2]; decide) (by rw [ka_2]; decide) (by rw [ka_2]; decide)]; exact hfo_56
      have hfo_98 : f_91 a_24 = .inl (cR, 8, .inr (.inr (.inr (.inr g_76)))) := by rw [hkc_92 a_24 (by rw [ka_24]; decide) (by rw [ka_24]; decide) (by rw [ka_24]; decide) (by rw [ka_24]; decide)]; exact hfo_75
      have hfr0 : ∀ b, kd b ≠ 2 → kd b ≠ 204 → kd b ≠ 205 → kd b ≠ 207 → kd b ≠ 558 → kd b ≠ 559 → kd b ≠ 568 → kd b ≠ 569 → kd b ≠ 570 → kd b ≠ 571 → kd b ≠ 572 → f_91 b = f b := fun b q2 q204 q205 q207 q558 q559 q568 q569 q570 q571 q572 => (hkc_92 b q204 q205 q558 q559).trans (hfr0 b q2 q204 q205 q207 q558 q559 q568 q569 q570 q571 q572)
      have hfr2_4 : ∀ b, kd b = 2 → fldI (f_91 b) 4 = fldI (f b) 4 := fun b kb => (congrArg (fun x => fldI x 4) (hkc_92 b (by rw [kb]; decide) (by rw [kb]; decide) (by rw [kb]; decide) (by rw [kb]; decide))).trans (hfr2_4 b kb)
      have hfr207_1 : ∀ b, kd b = 207 → fldI (f_91 b) 1 = fldI (f b) 1 := fun b kb => (congrArg (fun x => fldI x 1) (hkc_92 b (by rw [kb]; decide) (by rw [kb]; decide) (by rw [kb]; decide) (by rw [kb]; decide))).trans (hfr207_1 b kb)
      have hrr2_0 : ∀ b, kd b = 2 → fldR (f_91 b) 0 = fldR (f b) 0 := fun b kb => (congrArg (fun x => fldR x 0) (hkc_92 b (by rw [kb]; decide) (by rw [kb]; decide) (by rw [kb]; decide) (by rw [kb]; decide))).trans (hrr2_0 b kb)
      have hrr2_3 : ∀ b, kd b = 2 → fldR (f_91 b) 3 = fldR (f b) 3 := fun b kb => (congrArg (fun x => fldR x 3) (hkc_92 b (by rw [kb]; decide) (by rw [kb]; decide) (by rw [kb]; decide) (by rw [kb]; decide))).trans (hrr2_3 b kb)
      have hrr207_0 : ∀ b, kd b = 207 → fldR (f_91 b) 0 = fldR (f b) 0 := fun b kb => (congrArg (fun x => fldR x 0) (hkc_92 b (by rw [kb]; decide) (by rw [kb]; decide) (by rw [kb]; decide) (by rw [kb]; decide))).trans (hrr207_0 b kb)
      have hrr207_3 : ∀ b, kd b = 207 → fldR (f_91 b) 3 = fldR (f b) 3 := fun b kb => (congrArg (fun x => fldR x 3) (hkc_92 b (by rw [kb]; decide) (by rw [kb]; decide) (by rw [kb]; decide) (by rw [kb]; decide))).trans (hrr207_3 b kb)
      have hrr207_11 : ∀ b, kd b = 207 → fldR (f_91 b) 11 = fldR (f b) 11 := fun b kb => (congrArg (fun x => fldR x 11) (hkc_92 b (by rw [kb]; decide) (by rw [kb]; decide) (by rw [kb]; decide) (by rw [kb]; decide))).trans (hrr207_11 b kb)
      obtain ⟨v_100, v_101, v_102, v_103, a_104, a_105, a_106, a_107, v_108, v_109, v_110, hfo_99, bv_100, bv_101, bv_102, bv_103, ⟨ma_104, ka_104⟩, ⟨ma_105, ka_105⟩, ⟨ma_106, ka_106⟩, ⟨ma_107, ka_107⟩⟩ := un_204 (hG _ ma_77) ka_77
      have bv_108 : ((-2147483648) ≤ v_108.toInt ∧ v_108.toInt ≤ 2147483647) := ⟨i32_lo _, i32_hi _⟩
      have bv_109 : ((-2147483648) ≤ v_109.toInt ∧ v_109.toInt ≤ 2147483647) := ⟨i32_lo _, i32_hi _⟩
      have bv_110 : ((-2147483648) ≤ v_110.toInt ∧ v_110.toInt ≤ 2147483647) := ⟨i32_lo _, i32_hi _⟩
      have hqhpost_94 := hpost_94 v_80 v_101 v_82 v_103 (by rw [hfo_78]; rfl) (by rw [hfo_78]; rfl) (by rw [hfo_99]; rfl) (by rw [hfo_99]; rfl)
      have hTt_111 : trel kd 207 566 568 573 204 f_91 a_2 := hT_73.rule (o := a_77) (w := v_101) (n := v_14) (fun b q => hkc_92 b (by rw [q]; decide) (by rw [q]; decide) (by rw [q]; decide) (by rw [q]; decide)) (fun b q => hkc_92 b (by rw [q]; decide) (by rw [q]; decide) (by rw [q]; decide) (by rw [q]; decide)) (fun b q => hkc_92 b (by rw [q]; decide) (by rw [q]; decide) (by rw [q]; decide) (by rw [q]; decide)) (fun b q => hkc_92 b (by rw [q]; decide) (by rw [q]; decide) (by rw [q]; decide) (by rw [q]; decide)) hac_93 (by rw [hfo_56]; rfl) (by rw [hfo_99]; rfl) (by omega)
      refine lv_aload_n hx hb dX2_readRule_56 rfl (lv_at hl 1 rfl) ?_
      refine lv_aload_n hx hb dX2_readRule_57 rfl (lv_at hl 0 rfl) ?_
      refine tk_ViP (As := [.ref a_77]) (rest := []) (n := 1) hx hb hml hown hU hN hZ (s_X2_readOp_k2_k204 l (dC, dI) cI cL cZ cR cG cH Z kd L f_91 hG o0 mo0 ko0 a_77 ma_77 ka_77) wd_419 wd_420 wd_421 wd_33 wd_422 (by decide +kernel) ⟨Nat.le_of_ble_eq_true rfl, Nat.le_of_ble_eq_true rfl⟩ hK hP hD hS mo0 hfo_96 2 rfl rfl rfl hl.1 rfl (Nat.le_of_ble_eq_true rfl) dX2_readRule_58 ⟨Nat.le_of_ble_eq_true rfl, Nat.le_of_ble_eq_true rfl⟩ (fun x_112 f_113 H locs hw hP hD hS => ?_)
      obtain ⟨hG, bx_112, hkc_114, hfc_115, hfc_116, hfc_117, hfc_118, hfc_119, hrc_120, hrc_121, hpost_122⟩ := hw
      have hfo_124 : f_113 a_2 = .inr (7, [.ref a_13, .int v_14, .ref a_59, .ref a_16, .ref a_61, .ref a_62, .int v_63, .ref a_64, .ref a_65, .ref a_66, .ref a_67, .ref a_24, .int v_25, .ref a_70, .ref a_71, .ref a_72]) := by rw [hkc_114 a_2 (by rw [ka_2]; decide) (by rw [ka_2]; decide)]; exact hfo_97
      have hfo_125 : f_113 a_24 = .inl (cR, 8, .inr (.inr (.inr (.inr g_76)))) := by rw [hkc_114 a_24 (by rw [ka_24]; decide) (by rw [ka_24]; decide)]; exact hfo_98
      have hfr0 : ∀ b, kd b ≠ 2 → kd b ≠ 204 → kd b ≠ 205 → kd b ≠ 207 → kd b ≠ 558 → kd b ≠ 559 → kd b ≠ 568 → kd b ≠ 569 → kd b ≠ 570 → kd b ≠ 571 → kd b ≠ 572 → f_113 b = f b := fun b q2 q204 q205 q207 q558 q559 q568 q569 q570 q571 q572 => (hkc_114 b q2 q204).trans (hfr0 b q2 q204 q205 q207 q558 q559 q568 q569 q570 q571 q572)
      have hfr2_4 : ∀ b, kd b = 2 → fldI (f_113 b) 4 = fldI (f b) 4 := fun b kb => (hfc_115 b kb).trans (hfr2_4 b kb)
      have hfr207_1 : ∀ b, kd b = 207 → fldI (f_113 b) 1 = fldI (f b) 1 := fun b kb => (congrArg (fun x => fldI x 1) (hkc_114 b (by rw [kb]; decide) (by rw [kb]; decide))).trans (hfr207_1 b kb)
      have hrr2_0 : ∀ b, kd b = 2 → fldR (f_113 b) 0 = fldR (f b) 0 := fun b kb => (hrc_120 b kb).trans (hrr2_0 b kb)
      have hrr2_3 : ∀ b, kd b = 2 → fldR (f_113 b) 3 = fldR (f b) 3 := fun b kb => (hrc_121 b kb).trans (hrr2_3 b kb)
      have hrr207_0 : ∀ b, kd b = 207 → fldR (f_113 b) 0 = fldR (f b) 0 := fun b kb => (congrArg (fun x => fldR x 0) (hkc_114 b (by rw [kb]; decide) (by rw [kb]; decide))).trans (hrr207_0 b kb)
      have hrr207_3 : ∀ b, kd b = 207 → fldR (f_113 b) 3 = fldR (f b) 3 := fun b kb => (congrArg (fun x => fldR x 3) (hkc_114 b (by rw [kb]; decide) (by rw [kb]; decide))).trans (hrr207_3 b kb)
      have hrr207_11 : ∀ b, kd b = 207 → fldR (f_113 b) 11 = fldR (f b) 11 := fun b kb => (congrArg (fun x => fldR x 11) (hkc_114 b (by rw [kb]; decide) (by rw [kb]; decide))).trans (hrr207_11 b kb)
      have hTt_111 : trel kd 207 566 568 573 204 f_113 a_2 := hTt_111.keep (fun b q => hkc_114 b (by rw [q]; decide) (by rw [q]; decide)) (fun b q => hkc_114 b (by rw [q]; decide) (by rw [q]; decide)) (fun b q => hkc_114 b (by rw [q]; decide) (by rw [q]; decide)) (fun b q => hkc_114 b (by rw [q]; decide) (by rw [q]; decide)) (fun b q => hfc_118 b q)
      obtain ⟨a_127, v_128, v_129, a_130, v_131, v_132, v_133, v_134, v_135, v_136, hfo_126, ⟨ma_127, ka_127⟩, ⟨ma_130, ka_130⟩, bv_131, bv_132, bv_133, bv_134, bv_135⟩ := un_2 (hG _ mo0) ko0
      have bv_128 : ((-2147483648) ≤ v_128.toInt ∧ v_128.toInt ≤ 2147483647) := ⟨i32_lo _, i32_hi _⟩
      have bv_129 : ((-2147483648) ≤ v_129.toInt ∧ v_129.toInt ≤ 2147483647) := ⟨i32_lo _, i32_hi _⟩
      have bv_136 : ((-2147483648) ≤ v_136.toInt ∧ v_136.toInt ≤ 2147483647) := ⟨i32_lo _, i32_hi _⟩
      obtain rfl : a_2 = a_127 := by have hk9 := hrr2_0 o0 ko0; rw [hfo_126, hfo_1] at hk9; exact (Option.some.inj hk9).symm
      obtain rfl : a_5 = a_130 := by have hk9 := hrr2_3 o0 ko0; rw [hfo_126, hfo_1] at hk9; exact (Option.some.inj hk9).symm
      obtain rfl : v_6 = v_131 := by have hk9 := hfc_115 o0 ko0; rw [hfo_126, hfo_96] at hk9; exact (Option.some.inj hk9).symm
      obtain rfl : v_53 = v_134 := by have hk9 := hfc_116 o0 ko0; rw [hfo_126, hfo_96] at hk9; exact (Option.some.inj hk9).symm
      obtain rfl : v_54 = v_135 := by have hk9 := hfc_117 o0 ko0; rw [hfo_126, hfo_96] at hk9; exact (Option.some.inj hk9).symm
      have hqhpost_122 := hpost_122 v_51 v_132 (by rw [hfo_96]; rfl) (by rw [hfo_126]; rfl)
      obtain ⟨v_138, v_139, v_140, v_141, a_142, a_143, a_144, a_145, v_146, v_147, v_148, hfo_137, bv_138, bv_139, bv_140, bv_141, ⟨ma_142, ka_142⟩, ⟨ma_143, ka_143⟩, ⟨ma_144, ka_144⟩, ⟨ma_145, ka_145⟩⟩ := un_204 (hG _ ma_77) ka_77
      have bv_146 : ((-2147483648) ≤ v_146.toInt ∧ v_146.toInt ≤ 2147483647) := ⟨i32_lo _, i32_hi _⟩
      have bv_147 : ((-2147483648) ≤ v_147.toInt ∧ v_147.toInt ≤ 2147483647) := ⟨i32_lo _, i32_hi _⟩
      have bv_148 : ((-2147483648) ≤ v_148.toInt ∧ v_148.toInt ≤ 2147483647) := ⟨i32_lo _, i32_hi _⟩
      obtain rfl : v_101 = v_139 := by have hk9 := hfc_118 a_77 ka_77; rw [hfo_137, hfo_99] at hk9; exact (Option.some.inj hk9).symm
      obtain rfl : v_103 = v_141 := by have hk9 := hfc_119 a_77 ka_77; rw [hfo_137, hfo_99] at hk9; exact (Option.some.inj hk9).symm
      refine lv_if_ne (tgt := 66) hx hb dX2_readRule_61 (by decide) (fun c_149 => ?_) (fun c_149 => ?_)
      · skip
        rw [← Int32.toInt_inj, ti_0] at c_149
        refine lv_iconst (v := 0) hx hb dX2_readRule_66 (by decide) ?_
        refine lv_istore_n (lv' := [(3, .int 0), (2, .ref a_77), (0, .ref o0), (1, .int p1)]) hx hb dX2_readRule_67 rfl hl (by decide) rfl (fun ls hl => ?_)
        have hloop_216 : ∀ (n : Nat), ∀ (y_217 : Int32), (0 ≤ y_217.toInt ∧ y_217.toInt ≤ 4) → ∀ (f_219 : Nat → va_E), GI (okc cI cL cZ cR cG cH L kd) kd L f_219 → ∀ (H : Heap) (locs : List Loc), va_P (dC, dI) vwCl (va_pl L f_219) H → va_S (fun q => q ∈ L) s.heap H locs → va_D (fun q => q ∈ L) (va_pl L f_219) → (∀ b, kd b ≠ 2 → kd b ≠ 204 → kd b ≠ 205 → kd b ≠ 207 → kd b ≠ 558 → kd b ≠ 559 → kd b ≠ 568 → kd b ≠ 569 → kd b ≠ 570 → kd b ≠ 571 → kd b ≠ 572 → f_219 b = f b) → (∀ b, kd b = 2 → fldI (f_219 b) 4 = fldI (f b) 4) → (∀ b, kd b = 207 → fldI (f_219 b) 1 = fldI (f b) 1) → (∀ b, kd b = 2 → fldR (f_219 b) 0 = fldR (f b) 0) → (∀ b, kd b = 2 → fldR (f_219 b) 3 = fldR (f b) 3) → (∀ b, kd b = 207 → fldR (f_219 b) 0 = fldR (f b) 0) → (∀ b, kd b = 207 → fldR (f_219 b) 3 = fldR (f b) 3) → (∀ b, kd b = 207 → fldR (f_219 b) 11 = fldR (f b) 11) → (f_219 a_2 = .inr (7, [.ref a_13, .int v_14, .ref a_59, .ref a_16, .ref a_61, .ref a_62, .int v_63, .ref a_64, .ref a_65, .ref a_66, .ref a_67, .ref a_24, .int v_25, .ref a_70, .ref a_71, .ref a_72])) → (f_219 a_24 = .inl (cR, 8, .inr (.inr (.inr (.inr g_76))))) → trel kd 207 566 568 573 204 f_219 a_2 → ∀ (whloop_216_2_3 : Int32), fldI (f_219 a_77) 3 = some whloop_216_2_3 → ∀ (whloop_216_2_1 : Int32), fldI (f_219 a_77) 1 = some whloop_216_2_1 → ∀ (whloop_216_0_5 : Int32), fldI (f_219 o0) 5 = some whloop_216_0_5 → (v_7.toInt ≤ whloop_216_0_5.toInt) → (whloop_216_2_1.toInt ≤ v_14.toInt) → (0 ≤ whloop_216_2_3.toInt ∧ whloop_216_2_3.toInt ≤ 2) → (0 ≤ whloop_216_2_1.toInt ∧ whloop_216_2_1.toInt ≤ 8) → (0 ≤ whloop_216_0_5.toInt ∧ whloop_216_0_5.toInt ≤ 600) → 4 - y_217.toInt < (n : Int) → ∀ (ls : Array Slot), lv_has ls 4 [(3, .int y_217), (2, .ref a_77), (0, .ref o0), (1, .int p1)] → W p l e (headSpec (wU yX2_readRule cX2_readRule 4 (some .boolean)) { frames := 6, cells := 0, slots := 0, locals := 129 }).room s m [.ref o0, .int p1].toArray below meth c H locs 0 0 (MQ below (va_Qi (fun (r : Int32) (f9 : Nat → va_E) => GI (okc cI cL cZ cR cG cH L kd) kd L f9 ∧ (0 ≤ r.toInt ∧ r.toInt ≤ 1) ∧ (∀ b, kd b ≠ 2 → kd b ≠ 204 → kd b ≠ 205 → kd b ≠ 207 → kd b ≠ 558 → kd b ≠ 559 → kd b ≠ 568 → kd b ≠ 569 → kd b ≠ 570 → kd b ≠ 571 → kd b ≠ 572 → f9 b = f b) ∧ (∀ b, kd b = 2 → fldI (f9 b) 4 = fldI (f b) 4) ∧ (∀ b, kd b = 207 → fldI (f9 b) 1 = fldI (f b) 1) ∧ (∀ b, kd b = 2 → fldR (f9 b) 0 = fldR (f b) 0) ∧ (∀ b, kd b = 2 → fldR (f9 b) 3 = fldR (f b) 3) ∧ (∀ b, kd b = 207 → fldR (f9 b) 0 = fldR (f b) 0) ∧ (∀ b, kd b = 207 → fldR (f9 b) 3 = fldR (f b) 3) ∧ (∀ b, kd b = 207 → fldR (f9 b) 11 = fldR (f b) 11) ∧ (∀ (w5 z5 : Int32), fldI (f o0) 5 = some w5 → fldI (f9 o0) 5 = some z5 → w5.toInt ≤ z5.toInt) ∧ (∀ d9, fldR (f9 o0) 0 = some d9 → trel kd 207 566 568 573 204 f9 d9)) (qP (dC, dI) cI cL cZ cR cG cH L) (fun q => q ∈ L)) [.ref o0, .int p1].toArray s 0 0 (fun q => q ∈ L)) (F0 m 68 ls []) := by
          intro n
          induction n with
          | zero => intro y_217 by_217 f_219 hG H locs hP hS hD hfr0 hfr2_4 hfr207_1 hrr2_0 hrr2_3 hrr207_0 hrr207_3 hrr207_11 hfo_220 hfo_221 hTt_111 whloop_216_2_3 hghloop_216_2_3 whloop_216_2_1 hghloop_216_2_1 whloop_216_0_5 hghloop_216_0_5 hrelhloop_216_0 hrelhloop_216_1 hrelhloop_216_2 hrelhloop_216_3 hrelhloop_216_4 hmuhloop_216 ls hl; exfalso; omega
          | succ n ih_hloop_216 =>
            intro y_217 by_217 f_219 hG H locs hP hS hD hfr0 hfr2_4 hfr207_1 hrr2_0 hrr2_3 hrr207_0 hrr207_3 hrr207_11 hfo_220 hfo_221 hTt_111 whloop_216_2_3 hghloop_216_2_3 whloop_216_2_1 hghloop_216_2_1 whloop_216_0_5 hghloop_216_0_5 hrelhloop_216_0 hrelhloop_216_1 hrelhloop_216_2 hrelhloop_216_3 hrelhloop_216_4 hmuhloop_216 ls hl
            obtain ⟨v_223, v_224, v_225, v_226, a_227, a_228, a_229, a_230, v_231, v_232, v_233, hfo_222, bv_223, bv_224, bv_225, bv_226, ⟨ma_227, ka_227⟩, ⟨ma_228, ka_228⟩, ⟨ma_229, ka_229⟩, ⟨ma_230, ka_230⟩⟩ := un_204 (hG _ ma_77) ka_77
            have bv_231 : ((-2147483648) ≤ v_231.toInt ∧ v_231.toInt ≤ 2147483647) := ⟨i32_lo _, i32_hi _⟩
            have bv_232 : ((-2147483648) ≤ v_232.toInt ∧ v_232.toInt ≤ 2147483647) := ⟨i32_lo _, i32_hi _⟩
            have bv_233 : ((-2147483648) ≤ v_233.toInt ∧ v_233.toInt ≤ 2147483647) := ⟨i32_lo _, i32_hi _⟩
            obtain rfl : v_226 = whloop_216_2_3 := by rw [hfo_222] at hghloop_216_2_3; exact Option.some.inj hghloop_216_2_3
            obtain rfl : v_224 = whloop_216_2_1 := by rw [hfo_222] at hghloop_216_2_1; exact Option.some.inj hghloop_216_2_1
            obtain ⟨a_235, v_236, v_237, a_238, v_239, v_240, v_241, v_242, v_243, v_244, hfo_234, ⟨ma_235, ka_235⟩, ⟨ma_238, ka_238⟩, bv_239, bv_240, bv_241, bv_242, bv_243⟩ := un_2 (hG _ mo0) ko0
            have bv_236 : ((-2147483648) ≤ v_236.toInt ∧ v_236.toInt ≤ 2147483647) := ⟨i32_lo _, i32_hi _⟩
            have bv_237 : ((-2147483648) ≤ v_237.toInt ∧ v_237.toInt ≤ 2147483647) := ⟨i32_lo _, i32_hi _⟩
            have bv_244 : ((-2147483648) ≤ v_244.toInt ∧ v_244.toInt ≤ 2147483647) := ⟨i32_lo _, i32_hi _⟩
            obtain rfl : a_2 = a_235 := by have hk9 := hrr2_0 o0 ko0; rw [hfo_234, hfo_1] at hk9; exact (Option.some.inj hk9).symm
            obtain rfl : a_5 = a_238 := by have hk9 := hrr2_3 o0 ko0; rw [hfo_234, hfo_1] at hk9; exact (Option.some.inj hk9).symm
            obtain rfl : v_240 = whloop_216_0_5 := by rw [hfo_234] at hghloop_216_0_5; exact Option.some.inj hghloop_216_0_5
            refine lv_iload_n hx hb dX2_readRule_68 rfl (lv_at hl 0 rfl) ?_
            refine lv_iconst (v := 3) hx hb dX2_readRule_69 (by decide) ?_
            refine lv_icmp_gt (tgt := 129) hx hb dX2_readRule_70 (by decide) (fun c_245 => ?_) (fun c_245 => ?_)
            · skip
              rw [Int32.lt_iff_toInt_lt, ti_3] at c_245
              have hTq := hTt_111
              obtain ⟨g_247, hfo_246, hbg_247⟩ := un_566 (hG _ ma_13) ka_13
              obtain ⟨g_249, hfo_248, hbg_249⟩ := un_568 (hG _ ma_16) ka_16
              obtain ⟨tqn, tqp, tqc, tqs, tqa, tqr, tqg, tqh, tqq, ⟨-, -, -, -⟩, ⟨tqt1, tqt2, tqt3, tqt4, tqt5, tqt6⟩, ⟨tqw1, tqw2, tqw3⟩, tq4, tq5, tq6, tq7⟩ := hTq
              rw [hfo_220] at tqt1 tqt2 tqt3 tqt4 tqt5 tqt6
              obtain rfl := Option.some.inj tqt1
              obtain rfl := Option.some.inj tqt2
              obtain rfl := Option.some.inj tqt3
              obtain rfl := Option.some.inj tqt4
              obtain rfl := Option.some.inj tqt5
              obtain rfl := Option.some.inj tqt6
              rw [hfo_246] at tqw1
              obtain rfl := Option.some.inj tqw1
              rw [hfo_248] at tqw2
              obtain rfl := Option.some.inj tqw2
              rw [hfo_221] at tqw3
              obtain rfl := Option.some.inj tqw3
              refine lv_aload_n hx hb dX2_readRule_129 rfl (lv_at hl 2 rfl) ?_
              refine tk_getP (D := (dC, dI)) (ci := 2) (v := .ref a_2) (C := RX2) (T := TX2) (N := 10) hx hb hU inlX2 hown hK hP mo0 hfo_234 rfl 0 (by decide) (hU _ wd_150) (fun _ h9 => h9) rfl dX2_readRule_130 ?_
              refine lv_dup hx hb dX2_readRule_133 rfl ?_
              refine tk_getP (D := (dC, dI)) (ci := 7) (v := .int v_25) (C := RX7) (T := TX7) (N := 16) hx hb hU inlX7 hown hK hP ma_2 hfo_220 rfl 12 (by decide) (hU _ wd_400) (fun _ h9 => h9) rfl dX2_readRule_134 ?_
              refine lv_iconst (v := 1) hx hb dX2_readRule_137 (by decide) ?_
              refine lv_iadd hx hb dX2_readRule_138 ?_
              refine lv_topi (fun x_250 ex_250 => ?_)
              have hx_250 : x_250.toInt = v_25.toInt + 1 := by rw [ex_250, ad_I (by rw [ti_1]; omega) (by rw [ti_1]; omega), ti_1]
              have bx_250 : (1 ≤ x_250.toInt ∧ x_250.toInt ≤ 8) := by constructor <;> omega
              refine tk_putP (D := (dC, dI)) (ci := 7) (v := .int x_250) (ty := .int) (C := RX7) (T := TX7) (N := 16) hx hb hU inlX7 tyX7 tyX7_ok nmX7 hown hK hP hD hS ma_2 hfo_220 rfl 12 (by decide) (hU _ wd_400) (fun _ h9 => h9) rfl (by decide +kernel) rfl rfl (Nat.le_of_ble_eq_true rfl) dX2_readRule_139 (fun H locs hP hD hS => ?_)
              obtain ⟨f_252, ef_252⟩ : ∃ y : Nat → va_E, y = va_up f_219 a_2 (.inr (7, [.ref a_13, .int v_14, .ref a_59, .ref a_16, .ref a_61, .ref a_62, .int v_63, .ref a_64, .ref a_65, .ref a_66, .ref a_67, .ref a_24, .int x_250, .ref a_70, .ref a_71, .ref a_72])) := ⟨_, rfl⟩
              have hP : va_P (dC, dI) vwCl (va_pl L f_252) H := by rw [ef_252]; exact hP
              have hD : va_D (fun q => q ∈ L) (va_pl L f_252) := by rw [ef_252]; exact hD
              have hG : GI (okc cI cL cZ cR cG cH L kd) kd L f_252 := by rw [ef_252]; exact hG.set a_2 (mk_207 ka_2 ⟨a_13, v_14, a_59, a_16, a_61, a_62, v_63, a_64, a_65, a_66, a_67, a_24, x_250, a_70, a_71, a_72, rfl, ⟨ma_13, ka_13⟩, (by constructor <;> omega), ⟨ma_59, ka_59⟩, ⟨ma_16, ka_16⟩, ⟨ma_61, ka_61⟩, ⟨ma_62, ka_62⟩, (by constructor <;> omega), ⟨ma_64, ka_64⟩, ⟨ma_65, ka_65⟩, ⟨ma_66, ka_66⟩, ⟨ma_67, ka_67⟩, ⟨ma_24, ka_24⟩, (by constructor <;> omega), ⟨ma_70, ka_70⟩, ⟨ma_71, ka_71⟩, ⟨ma_72, ka_72⟩⟩)
              have hfo_253 : f_252 a_24 = .inl (cR, 8, .inr (.inr (.inr (.inr g_76)))) := by rw [ef_252, up_ne (kd_ne ka_2 ka_24 (by decide))]; exact hfo_221
              have hfo_254 : f_252 a_77 = .inr (4, [.int v_223, .int v_224, .int v_225, .int v_226, .ref a_227, .ref a_228, .ref a_229, .ref a_230, .int v_231, .int v_232, .int v_233]) := by rw [ef_252, up_ne (kd_ne ka_2 ka_77 (by decide))]; exact hfo_222
              have hfo_255 : f_252 o0 = .inr (2, [.ref a_2, .int v_236, .int v_237, .ref a_5, .int v_239, .int v_240, .int v_241, .int v_242, .int v_243, .int v_244]) := by rw [ef_252, up_ne (kd_ne ka_2 ko0 (by decide))]; exact hfo_234
              have hfo_256 : f_252 a_13 = .inl (cI, 26, .inl g_247) := by rw [ef_252, up_ne (kd_ne ka_2 ka_13 (by decide))]; exact hfo_246
              have hfo_257 : f_252 a_16 = .inl (cI, 81, .inl g_249) := by rw [ef_252, up_ne (kd_ne ka_2 ka_16 (by decide))]; exact hfo_248
              have hfr0 : ∀ b, kd b ≠ 2 → kd b ≠ 204 → kd b ≠ 205 → kd b ≠ 207 → kd b ≠ 558 → kd b ≠ 559 → kd b ≠ 568 → kd b ≠ 569 → kd b ≠ 570 → kd b ≠ 571 → kd b ≠ 572 → f_252 b = f b := fun b q2 q204 q205 q207 q558 q559 q568 q569 q570 q571 q572 => (congrFun ef_252 b).trans ((up_ne (fun e9 => q207 (by rw [e9]; exact ka_2))).trans (hfr0 b q2 q204 q205 q207 q558 q559 q568 q569 q570 q571 q572))
              have hfr2_4 : ∀ b, kd b = 2 → fldI (f_252 b) 4 = fldI (f b) 4 := fun b kb => (congrArg (fun x => fldI x 4) ((congrFun ef_252 b).trans (up_ne (kd_ne ka_2 kb (by decide))))).trans (hfr2_4 b kb)
              have hfr207_1 : ∀ b, kd b = 207 → fldI (f_252 b) 1 = fldI (f b) 1 := fun b kb => ((congrArg (fun x => fldI x 1) (congrFun ef_252 b)).trans (fk_up (by rw [hfo_220]; rfl) b)).trans (hfr207_1 b kb)
              have hrr2_0 : ∀ b, kd b = 2 → fldR (f_252 b) 0 = fldR (f b) 0 := fun b kb => (congrArg (fun x => fldR x 0) ((congrFun ef_252 b).trans (up_ne (kd_ne ka_2 kb (by decide))))).trans (hrr2_0 b kb)
              have hrr2_3 : ∀ b, kd b = 2 → fldR (f_252 b) 3 = fldR (f b) 3 := fun b kb => (congrArg (fun x => fldR x 3) ((congrFun ef_252 b).trans (up_ne (kd_ne ka_2 kb (by decide))))).trans (hrr2_3 b kb)
              have hrr207_0 : ∀ b, kd b = 207 → fldR (f_252 b) 0 = fldR (f b) 0 := fun b kb => ((congrArg (fun x => fldR x 0) (congrFun ef_252 b)).trans (fr_up (by rw [hfo_220]; rfl) b)).trans (hrr207_0 b kb)
              have hrr207_3 : ∀ b, kd b = 207 → fldR (f_252 b) 3 = fldR (f b) 3 := fun b kb => ((congrArg (fun x => fldR x 3) (congrFun ef_252 b)).trans (fr_up (by rw [hfo_220]; rfl) b)).trans (hrr207_3 b kb)
              have hrr207_11 : ∀ b, kd b = 207 → fldR (f_252 b) 11 = fldR (f b) 11 := fun b kb => ((congrArg (fun x => fldR x 11) (congrFun ef_252 b)).trans (fr_up (by rw [hfo_220]; rfl) b)).trans (hrr207_11 b kb)
              have hfo_258 : f_252 a_2 = .inr (7, [.ref a_13, .int v_14, .ref a_59, .ref a_16, .ref a_61, .ref a_62, .int v_63, .ref a_64, .ref a_65, .ref a_66, .ref a_67, .ref a_24, .int x_250, .ref a_70, .ref a_71, .ref a_72]) := by rw [ef_252]; exact up_self
              refine lv_iconst (v := 1) hx hb dX2_readRule_142 (by decide) ?_
              exact W.zret (v := 1) (ty := .boolean) hx hb hr rfl (fun t ht hW => ⟨⟨1, f_252, rfl, ⟨hG, (by decide), hfr0, hfr2_4, hfr207_1, hrr2_0, hrr2_3, hrr207_0, hrr207_3, hrr207_11, (by intro w5 z5 e5 d5; rw [hfo_1] at e5; rw [hfo_255] at d5; obtain rfl := Option.some.inj e5; obtain rfl := Option.some.inj d5; (try rw [ti_1]) <;> omega), (fun d9 h9 => by rw [hfo_255] at h9; obtain rfl := Option.some.inj h9; exact ⟨v_14, v_63, x_250, a_13, a_16, a_24, g_247, g_249, g_76, ⟨ka_2, ka_13, ka_16, ka_24⟩, (by rw [hfo_258]; exact ⟨rfl, rfl, rfl, rfl, rfl, rfl⟩), ⟨by rw [hfo_256]; rfl, by rw [hfo_257]; rfl, by rw [hfo_253]; rfl⟩, tq4, tq5, tq6, (fun k9 hk9 => by by_cases hkc : (k9 : Int) = v_25.toInt; (· refine ⟨a_77, v_224, ?_, ka_77, ?_, by omega⟩; (· have hc9 := cl_I (i := v_25) (by omega); rw [show k9 = Int32.toNatClampNeg v_25 by omega]; exact hga_77); (· rw [ef_252, up_ne (kd_ne ka_2 ka_77 (by decide)), hfo_222]; rfl)); (· obtain ⟨b, w, w1, w2, w3, w4⟩ := tq7 k9 (by omega); exact ⟨b, w, w1, w2, by rw [ef_252, up_ne (kd_ne ka_2 w2 (by decide))]; exact w3, w4⟩))⟩)⟩, by rw [ht]; exact hP, va_K.moved hW.alike hK, pl_in hD⟩, hS.F ht⟩) hS.2.2 dX2_readRule_143
            · skip
              rw [Int32.lt_iff_toInt_lt, ti_3] at c_245
              refine lv_aload_n hx hb dX2_readRule_73 rfl (lv_at hl 2 rfl) ?_
              refine lv_aload_n hx hb dX2_readRule_74 rfl (lv_at hl 1 rfl) ?_
              refine tk_ViP (As := [.ref a_77]) (rest := []) (n := 1) hx hb hml hown hU hN hZ (s_X2_readContext_k2_k204 l (dC, dI) cI cL cZ cR cG cH Z kd L f_219 hG o0 mo0 ko0 a_77 ma_77 ka_77 (by intro w3 e3; rw [hfo_222] at e3; obtain rfl := Option.some.inj e3; omega)) wd_432 wd_433 wd_434 wd_33 wd_435 (by decide +kernel) ⟨Nat.le_of_ble_eq_true rfl, Nat.le_of_ble_eq_true rfl⟩ hK hP hD hS mo0 hfo_234 2 rfl rfl rfl hl.1 rfl (Nat.le_of_ble_eq_true rfl) dX2_readRule_75 ⟨Nat.le_of_ble_eq_true rfl, Nat.le_of_ble_eq_true rfl⟩ (fun x_259 f_260 H locs hw hP hD hS => ?_)
              obtain ⟨hG, bx_259, hkc_261, hfc_262, hfc_263, hfc_264, hfc_265, hrc_266, hrc_267, hpost_268⟩ := hw
              have hfo_270 : f_260 a_2 = .inr (7, [.ref a_13, .int v_14, .ref a_59, .ref a_16, .ref a_61, .ref a_62, .int v_63, .ref a_64, .ref a_65, .ref a_66, .ref a_67, .ref a_24, .int v_25, .ref a_70, .ref a_71, .ref a_72]) := by rw [hkc_261 a_2 (by rw [ka_2]; decide) (by rw [ka_2]; decide) (by rw [ka_2]; decide) (by rw [ka_2]; decide)]; exact hfo_220
              have hfo_271 : f_260 a_24 = .inl (cR, 8, .inr (.inr (.inr (.inr g_76)))) := by rw [hkc_261 a_24 (by rw [ka_24]; decide) (by rw [ka_24]; decide) (by rw [ka_24]; decide) (by rw [ka_24]; decide)]; exact hfo_221
              have hfr0 : ∀ b, kd b ≠ 2 → kd b ≠ 204 → kd b ≠ 205 → kd b ≠ 207 → kd b ≠ 558 → kd b ≠ 559 → kd b ≠ 568 → kd b ≠ 569 → kd b ≠ 570 → kd b ≠ 571 → kd b ≠ 572 → f_260 b = f b := fun b q2 q204 q205 q207 q558 q559 q568 q569 q570 q571 q572 => (hkc_261 b q2 q204 q205 q558).trans (hfr0 b q2 q204 q205 q207 q558 q559 q568 q569 q570 q571 q572)
              have hfr2_4 : ∀ b, kd b = 2 → fldI (f_260 b) 4 = fldI (f b) 4 := fun b kb => (hfc_262 b kb).trans (hfr2_4 b kb)
              have hfr207_1 : ∀ b, kd b = 207 → fldI (f_260 b) 1 = fldI (f b) 1 := fun b kb => (congrArg (fun x => fldI x 1) (hkc_261 b (by rw [kb]; decide) (by rw [kb]; decide) (by rw [kb]; decide) (by rw [kb]; decide))).trans (hfr207_1 b kb)
              have hrr2_0 : ∀ b, kd b = 2 → fldR (f_260 b) 0 = fldR (f b) 0 := fun b kb => (hrc_266 b kb).trans (hrr2_0 b kb)
              have hrr2_3 : ∀ b, kd b = 2 → fldR (f_260 b) 3 = fldR (f b) 3 := fun b kb => (hrc_267 b kb).trans (hrr2_3 b kb)
              have hrr207_0 : ∀ b, kd b = 207 → fldR (f_260 b) 0 = fldR (f b) 0 := fun b kb => (congrArg (fun x => fldR x 0) (hkc_261 b (by rw [kb]; decide) (by rw [kb]; decide) (by rw [kb]; decide) (by rw [kb]; decide))).trans (hrr207_0 b kb)
              have hrr207_3 : ∀ b, kd b = 207 → fldR (f_260 b) 3 = fldR (f b) 3 := fun b kb => (congrArg (fun x => fldR x 3) (hkc_261 b (by rw [kb]; decide) (by rw [kb]; decide) (by rw [kb]; decide) (by rw [kb]; decide))).trans (hrr207_3 b kb)
              have hrr207_11 : ∀ b, kd b = 207 → fldR (f_260 b) 11 = fldR (f b) 11 := fun b kb => (congrArg (fun x => fldR x 11) (hkc_261 b (by rw [kb]; decide) (by rw [kb]; decide) (by rw [kb]; decide) (by rw [kb]; decide))).trans (hrr207_11 b kb)
              have hTt_111 : trel kd 207 566 568 573 204 f_260 a_2 := hTt_111.keep (fun b q => hkc_261 b (by rw [q]; decide) (by rw [q]; decide) (by rw [q]; decide) (by rw [q]; decide)) (fun b q => hkc_261 b (by rw [q]; decide) (by rw [q]; decide) (by rw [q]; decide) (by rw [q]; decide)) (fun b q => hkc_261 b (by rw [q]; decide) (by rw [q]; decide) (by rw [q]; decide) (by rw [q]; decide)) (fun b q => hkc_261 b (by rw [q]; decide) (by rw [q]; decide) (by rw [q]; decide) (by rw [q]; decide)) (fun b q => hfc_265 b q)
              obtain ⟨v_273, v_274, v_275, v_276, a_277, a_278, a_279, a_280, v_281, v_282, v_283, hfo_272, bv_273, bv_274, bv_275, bv_276, ⟨ma_277, ka_277⟩, ⟨ma_278, ka_278⟩, ⟨ma_279, ka_279⟩, ⟨ma_280, ka_280⟩⟩ := un_204 (hG _ ma_77) ka_77
              have bv_281 : ((-2147483648) ≤ v_281.toInt ∧ v_281.toInt ≤ 2147483647) := ⟨i32_lo _, i32_hi _⟩
              have bv_282 : ((-2147483648) ≤ v_282.toInt ∧ v_282.toInt ≤ 2147483647) := ⟨i32_lo _, i32_hi _⟩
              have bv_283 : ((-2147483648) ≤ v_283.toInt ∧ v_283.toInt ≤ 2147483647) := ⟨i32_lo _, i32_hi _⟩
              obtain rfl : v_224 = v_274 := by have hk9 := hfc_265 a_77 ka_77; rw [hfo_272, hfo_222] at hk9; exact (Option.some.inj hk9).symm
              obtain ⟨a_285, v_286, v_287, a_288, v_289, v_290, v_291, v_292, v_293, v_294, hfo_284, ⟨ma_285, ka_285⟩, ⟨ma_288, ka_288⟩, bv_289, bv_290, bv_291, bv_292, bv_293⟩ := un_2 (hG _ mo0) ko0
              have bv_286 : ((-2147483648) ≤ v_286.toInt ∧ v_286.toInt ≤ 2147483647) := ⟨i32_lo _, i32_hi _⟩
              have bv_287 : ((-2147483648) ≤ v_287.toInt ∧ v_287.toInt ≤ 2147483647) := ⟨i32_lo _, i32_hi _⟩
              have bv_294 : ((-2147483648) ≤ v_294.toInt ∧ v_294.toInt ≤ 2147483647) := ⟨i32_lo _, i32_hi _⟩
              obtain rfl : a_2 = a_285 := by have hk9 := hrr2_0 o0 ko0; rw [hfo_284, hfo_1] at hk9; exact (Option.some.inj hk9).symm
              obtain rfl : a_5 = a_288 := by have hk9 := hrr2_3 o0 ko0; rw [hfo_284, hfo_1] at hk9; exact (Option.some.inj hk9).symm
              obtain rfl : v_239 = v_289 := by have hk9 := hfc_262 o0 ko0; rw [hfo_284, hfo_234] at hk9; exact (Option.some.inj hk9).symm
              obtain rfl : v_242 = v_292 := by have hk9 := hfc_263 o0 ko0; rw [hfo_284, hfo_234] at hk9; exact (Option.some.inj hk9).symm
              obtain rfl : v_243 = v_293 := by have hk9 := hfc_264 o0 ko0; rw [hfo_284, hfo_234] at hk9; exact (Option.some.inj hk9).symm
              have hqhpost_268 := hpost_268 v_240 v_290 (by rw [hfo_234]; rfl) (by rw [hfo_284]; rfl)
              refine lv_if_ne (tgt := 83) hx hb dX2_readRule_78 (by decide) (fun c_295 => ?_) (fun c_295 => ?_)
              · skip
                rw [← Int32.toInt_inj, ti_0] at c_295
                refine lv_aload_n hx hb dX2_readRule_83 rfl (lv_at hl 2 rfl) ?_
                refine lv_bipush (v := 124) hx hb dX2_readRule_84 (by decide) ?_
                refine tk_ViP (As := [.int 124]) (rest := []) (n := 1) hx hb hml hown hU hN hZ (s_X2_isNext_k2 l (dC, dI) cI cL cZ cR cG cH Z kd L f_260 hG o0 mo0 ko0 124 (by decide)) wd_458 wd_459 wd_460 wd_33 wd_461 (by decide +kernel) ⟨Nat.le_of_ble_eq_true rfl, Nat.le_of_ble_eq_true rfl⟩ hK hP hD hS mo0 hfo_284 2 rfl rfl rfl hl.1 rfl (Nat.le_of_ble_eq_true rfl) dX2_readRule_86 ⟨Nat.le_of_ble_eq_true rfl, Nat.le_of_ble_eq_true rfl⟩ (fun x_296 f_297 H locs hw hP hD hS => ?_)
                obtain ⟨hG, bx_296, hkc_298, hfc_299, hfc_300, hfc_301, hrc_302, hrc_303, hpost_304⟩ := hw
                have hfo_306 : f_297 a_2 = .inr (7, [.ref a_13, .int v_14, .ref a_59, .ref a_16, .ref a_61, .ref a_62, .int v_63, .ref a_64, .ref a_65, .ref a_66, .ref a_67, .ref a_24, .int v_25, .ref a_70, .ref a_71, .ref a_72]) := by rw [hkc_298 a_2 (by rw [ka_2]; decide)]; exact hfo_270
                have hfo_307 : f_297 a_24 = .inl (cR, 8, .inr (.inr (.inr (.inr g_76)))) := by rw [hkc_298 a_24 (by rw [ka_24]; decide)]; exact hfo_271
                have hfo_308 : f_297 a_77 = .inr (4, [.int v_273, .int v_224, .int v_275, .int v_276, .ref a_277, .ref a_278, .ref a_279, .ref a_280, .int v_281, .int v_282, .int v_283]) := by rw [hkc_298 a_77 (by rw [ka_77]; decide)]; exact hfo_272
                have hfr0 : ∀ b, kd b ≠ 2 → kd b ≠ 204 → kd b ≠ 205 → kd b ≠ 207 → kd b ≠ 558 → kd b ≠ 559 → kd b ≠ 568 → kd b ≠ 569 → kd b ≠ 570 → kd b ≠ 571 → kd b ≠ 572 → f_297 b = f b := fun b q2 q204 q205 q207 q558 q559 q568 q569 q570 q571 q572 => (hkc_298 b q2).trans (hfr0 b q2 q204 q205 q207 q558 q559 q568 q569 q570 q571 q572)
                have hfr2_4 : ∀ b, kd b = 2 → fldI (f_297 b) 4 = fldI (f b) 4 := fun b kb => (hfc_299 b kb).trans (hfr2_4 b kb)
                have hfr207_1 : ∀ b, kd b = 207 → fldI (f_297 b) 1 = fldI (f b) 1 := fun b kb => (congrArg (fun x => fldI x 1) (hkc_298 b (by rw [kb]; decide))).trans (hfr207_1 b kb)
                have hrr2_0 : ∀ b, kd b = 2 → fldR (f_297 b) 0 = fldR (f b) 0 := fun b kb => (hrc_302 b kb).trans (hrr2_0 b kb)
                have hrr2_3 : ∀ b, kd b = 2 → fldR (f_297 b) 3 = fldR (f b) 3 := fun b kb => (hrc_303 b kb).trans (hrr2_3 b kb)
                have hrr207_0 : ∀ b, kd b = 207 → fldR (f_297 b) 0 = fldR (f b) 0 := fun b kb => (congrArg (fun x => fldR x 0) (hkc_298 b (by rw [kb]; decide))).trans (hrr207_0 b kb)
                have hrr207_3 : ∀ b, kd b = 207 → fldR (f_297 b) 3 = fldR (f b) 3 := fun b kb => (congrArg (fun x => fldR x 3) (hkc_298 b (by rw [kb]; decide))).trans (hrr207_3 b kb)
                have hrr207_11 : ∀ b, kd b = 207 → fldR (f_297 b) 11 = fldR (f b) 11 := fun b kb => (congrArg (fun x => fldR x 11) (hkc_298 b (by rw [kb]; decide))).trans (hrr207_11 b kb)
                have hTt_111 : trel kd 207 566 568 573 204 f_297 a_2 := hTt_111.keep (fun b q => hkc_298 b (by rw [q]; decide)) (fun b q => hkc_298 b (by rw [q]; decide)) (fun b q => hkc_298 b (by rw [q]; decide)) (fun b q => hkc_298 b (by rw [q]; decide)) (fun b q => congrArg (fun x => fldI x 1) (hkc_298 b (by rw [q]; decide)))
                obtain ⟨a_310, v_311, v_312, a_313, v_314, v_315, v_316, v_317, v_318, v_319, hfo_309, ⟨ma_310, ka_310⟩, ⟨ma_313, ka_313⟩, bv_314, bv_315, bv_316, bv_317, bv_318⟩ := un_2 (hG _ mo0) ko0
                have bv_311 : ((-2147483648) ≤ v_311.toInt ∧ v_311.toInt ≤ 2147483647) := ⟨i32_lo _, i32_hi _⟩
                have bv_312 : ((-2147483648) ≤ v_312.toInt ∧ v_312.toInt ≤ 2147483647) := ⟨i32_lo _, i32_hi _⟩
                have bv_319 : ((-2147483648) ≤ v_319.toInt ∧ v_319.toInt ≤ 2147483647) := ⟨i32_lo _, i32_hi _⟩
                obtain rfl : a_2 = a_310 := by have hk9 := hrr2_0 o0 ko0; rw [hfo_309, hfo_1] at hk9; exact (Option.some.inj hk9).symm
                obtain rfl : a_5 = a_313 := by have hk9 := hrr2_3 o0 ko0; rw [hfo_309, hfo_1] at hk9; exact (Option.some.inj hk9).symm
                obtain rfl : v_239 = v_314 := by have hk9 := hfc_299 o0 ko0; rw [hfo_309, hfo_284] at hk9; exact (Option.some.inj hk9).symm
                obtain rfl : v_242 = v_317 := by have hk9 := hfc_300 o0 ko0; rw [hfo_309, hfo_284] at hk9; exact (Option.some.inj hk9).symm
                obtain rfl : v_243 = v_318 := by have hk9 := hfc_301 o0 ko0; rw [hfo_309, hfo_284] at hk9; exact (Option.some.inj hk9).symm
                have hqhpost_304 := hpost_304 v_290 v_315 (by rw [hfo_284]; rfl) (by rw [hfo_309]; rfl)
                try rw [ti_124] at hqhpost_304
                refine lv_if_ne (tgt := 95) hx hb dX2_readRule_89 (by decide) (fun c_320 => ?_) (fun c_320 => ?_)
                · skip
                  rw [← Int32.toInt_inj, ti_0] at c_320
                  refine lv_aload_n hx hb dX2_readRule_95 rfl (lv_at hl 1 rfl) ?_
                  refine tk_getP (D := (dC, dI)) (ci := 4) (v := .int v_276) (C := RX4) (T := TX4) (N := 11) hx hb hU inlX4 hown hK hP ma_77 hfo_308 rfl 3 (by decide) (hU _ wd_402) (fun _ h9 => h9) rfl dX2_readRule_96 ?_
                  refine lv_iconst (v := 3) hx hb dX2_readRule_99 (by decide) ?_
                  refine lv_icmp_ne (tgt := 113) hx hb dX2_readRule_100 (by decide) (fun c_321 => ?_) (fun c_321 => ?_)
                  · skip
                    rw [← Int32.toInt_inj, ti_3] at c_321
                    have hclc_322 : (0 ≤ v_315.toInt ∧ v_315.toInt ≤ 599) := by constructor <;> omega
                    refine lv_aload_n hx hb dX2_readRule_113 rfl (lv_at hl 2 rfl) ?_
                    refine lv_dup hx hb dX2_readRule_114 rfl ?_
                    refine tk_getP (D := (dC, dI)) (ci := 2) (v := .int v_315) (C := RX2) (T := TX2) (N := 10) hx hb hU inlX2 hown hK hP mo0 hfo_309 rfl 5 (by decide) (hU _ wd_256) (fun _ h9 => h9) rfl dX2_readRule_115 ?_
                    refine lv_iconst (v := 1) hx hb dX2_readRule_118 (by decide) ?_
                    refine lv_iadd hx hb dX2_readRule_119 ?_
                    refine lv_topi (fun x_323 ex_323 => ?_)
                    have hx_323 : x_323.toInt = v_315.toInt + 1 := by rw [ex_323, ad_I (by rw [ti_1]; omega) (by rw [ti_1]; omega), ti_1]
                    have bx_323 : (1 ≤ x_323.toInt ∧ x_323.toInt ≤ 600) := by constructor <;> omega
                    refine tk_putP (D := (dC, dI)) (ci := 2) (v := .int x_323) (ty := .int) (C := RX2) (T := TX2) (N := 10) hx hb hU inlX2 tyX2 tyX2_ok nmX2 hown hK hP hD hS mo0 hfo_309 rfl 5 (by decide) (hU _ wd_256) (fun _ h9 => h9) rfl (by decide +kernel) rfl rfl (Nat.le_of_ble_eq_true rfl) dX2_readRule_120 (fun H locs hP hD hS => ?_)
                    obtain ⟨f_325, ef_325⟩ : ∃ y : Nat → va_E, y = va_up f_297 o0 (.inr (2, [.ref a_2, .int v_311, .int v_312, .ref a_5, .int v_239, .int x_323, .int v_316, .int v_242, .int v_243, .int v_319])) := ⟨_, rfl⟩
                    have hP : va_P (dC, dI) vwCl (va_pl L f_325) H := by rw [ef_325]; exact hP
                    have hD : va_D (fun q => q ∈ L) (va_pl L f_325) := by rw [ef_325]; exact hD
                    have hG : GI (okc cI cL cZ cR cG cH L kd) kd L f_325 := by rw [ef_325]; exact hG.set o0 (mk_2 ko0 ⟨a_2, v_311, v_312, a_5, v_239, x_323, v_316, v_242, v_243, v_319, rfl, ⟨ma_2, ka_2⟩, ⟨ma_5, ka_5⟩, (by constructor <;> omega), (by constructor <;> omega), (by constructor <;> omega), (by constructor <;> omega), (by constructor <;> omega)⟩)
                    have hfo_326 : f_325 a_2 = .inr (7, [.ref a_13, .int v_14, .ref a_59, .ref a_16, .ref a_61, .ref a_62, .int v_63, .ref a_64, .ref a_65, .ref a_66, .ref a_67, .ref a_24, .int v_25, .ref a_70, .ref a_71, .ref a_72]) := by rw [ef_325, up_ne (kd_ne ko0 ka_2 (by decide))]; exact hfo_306
                    have hfo_327 : f_325 a_24 = .inl (cR, 8, .inr (.inr (.inr (.inr g_76)))) := by rw [ef_325, up_ne (kd_ne ko0 ka_24 (by decide))]; exact hfo_307
                    have hfo_328 : f_325 a_77 = .inr (4, [.int v_273, .int v_224, .int v_275, .int v_276, .ref a_277, .ref a_278, .ref a_279, .ref a_280, .int v_281, .int v_282, .int v_283]) := by rw [ef_325, up_ne (kd_ne ko0 ka_77 (by decide))]; exact hfo_308
                    have hfr0 : ∀ b, kd b ≠ 2 → kd b ≠ 204 → kd b ≠ 205 → kd b ≠ 207 → kd b ≠ 558 → kd b ≠ 559 → kd b ≠ 568 → kd b ≠ 569 → kd b ≠ 570 → kd b ≠ 571 → kd b ≠ 572 → f_325 b = f b := fun b q2 q204 q205 q207 q558 q559 q568 q569 q570 q571 q572 => (congrFun ef_325 b).trans ((up_ne (fun e9 => q2 (by rw [e9]; exact ko0))).trans (hfr0 b q2 q204 q205 q207 q558 q559 q568 q569 q570 q571 q572))
                    have hfr2_4 : ∀ b, kd b = 2 → fldI (f_325 b) 4 = fldI (f b) 4 := fun b kb => ((congrArg (fun x => fldI x 4) (congrFun ef_325 b)).trans (fk_up (by rw [hfo_309]; rfl) b)).trans (hfr2_4 b kb)
                    have hfr207_1 : ∀ b, kd b = 207 → fldI (f_325 b) 1 = fldI (f b) 1 := fun b kb => (congrArg (fun x => fldI x 1) ((congrFun ef_325 b).trans (up_ne (kd_ne ko0 kb (by decide))))).trans (hfr207_1 b kb)
                    have hrr2_0 : ∀ b, kd b = 2 → fldR (f_325 b) 0 = fldR (f b) 0 := fun b kb => ((congrArg (fun x => fldR x 0) (congrFun ef_325 b)).trans (fr_up (by rw [hfo_309]; rfl) b)).trans (hrr2_0 b kb)
                    have hrr2_3 : ∀ b, kd b = 2 → fldR (f_325 b) 3 = fldR (f b) 3 := fun b kb => ((congrArg (fun x => fldR x 3) (congrFun ef_325 b)).trans (fr_up (by rw [hfo_309]; rfl) b)).trans (hrr2_3 b kb)
                    have hrr207_0 : ∀ b, kd b = 207 → fldR (f_325 b) 0 = fldR (f b) 0 := fun b kb => (congrArg (fun x => fldR x 0) ((congrFun ef_325 b).trans (up_ne (kd_ne ko0 kb (by decide))))).trans (hrr207_0 b kb)
                    have hrr207_3 : ∀ b, kd b = 207 → fldR (f_325 b) 3 = fldR (f b) 3 := fun b kb => (congrArg (fun x => fldR x 3) ((congrFun ef_325 b).trans (up_ne (kd_ne ko0 kb (by decide))))).trans (hrr207_3 b kb)
                    have hrr207_11 : ∀ b, kd b = 207 → fldR (f_325 b) 11 = fldR (f b) 11 := fun b kb => (congrArg (fun x => fldR x 11) ((congrFun ef_325 b).trans (up_ne (kd_ne ko0 kb (by decide))))).trans (hrr207_11 b kb)
                    have hTt_111 : trel kd 207 566 568 573 204 f_325 a_2 := by rw [ef_325]; exact hTt_111.up ko0 (by decide) (by decide) (by decide) (by decide) (by decide)
                    have hfo_329 : f_325 o0 = .inr (2, [.ref a_2, .int v_311, .int v_312, .ref a_5, .int v_239, .int x_323, .int v_316, .int v_242, .int v_243, .int v_319]) := by rw [ef_325]; exact up_self
                    obtain ⟨x_330, ex_330⟩ : ∃ y : Int32, y_217 + 1 = y := ⟨_, rfl⟩
                    have hx_330 : x_330.toInt = y_217.toInt + 1 := by rw [← ex_330, ad_I (by rw [ti_1]; omega) (by rw [ti_1]; omega), ti_1]
                    have bx_330 : (1 ≤ x_330.toInt ∧ x_330.toInt ≤ 4) := by constructor <;> omega
                    refine lv_iinc (v := x_330) (lv' := [(3, .int x_330), (2, .ref a_77), (0, .ref o0), (1, .int p1)]) hx hb dX2_readRule_123 hl (k := 0) rfl ex_330 (by decide) rfl (fun ls hl => ?_)
                    refine lv_goto (tgt := 68) hx hb dX2_readRule_126 (by decide) ?_
                    exact ih_hloop_216 x_330 (by constructor <;> omega) f_325 hG _ _ hP hS hD hfr0 hfr2_4 hfr207_1 hrr2_0 hrr2_3 hrr207_0 hrr207_3 hrr207_11 hfo_326 hfo_327 hTt_111 v_276 (by rw [hfo_328]; rfl) v_224 (by rw [hfo_328]; rfl) x_323 (by rw [hfo_329]; rfl) (by omega) (by omega) (by omega) (by omega) (by omega) (by omega) ls (lv_sub hl [0, 1, 2, 3] rfl)
                  · skip
                    rw [← Int32.toInt_inj, ti_3] at c_321
                    refine lv_aload_n hx hb dX2_readRule_103 rfl (lv_at hl 2 rfl) ?_
                    refine lv_iconst (v := 3) hx hb dX2_readRule_104 (by decide) ?_
                    refine lv_aload_n hx hb dX2_readRule_105 rfl (lv_at hl 2 rfl) ?_
                    refine tk_getP (D := (dC, dI)) (ci := 2) (v := .int v_315) (C := RX2) (T := TX2) (N := 10) hx hb hU inlX2 hown hK hP mo0 hfo_309 rfl 5 (by decide) (hU _ wd_256) (fun _ h9 => h9) rfl dX2_readRule_106 ?_
                    refine tk_ViP (As := [.int 3, .int v_315]) (rest := []) (n := 2) hx hb hml hown hU hN hZ (s_X2_fail_k2 l (dC, dI) cI cL cZ cR cG cH Z kd L f_297 hG o0 mo0 ko0 3 v_315) wd_349 wd_350 wd_351 wd_33 wd_352 (by decide +kernel) ⟨Nat.le_of_ble_eq_true rfl, Nat.le_of_ble_eq_true rfl⟩ hK hP hD hS mo0 hfo_309 2 rfl rfl rfl hl.1 rfl (Nat.le_of_ble_eq_true rfl) dX2_readRule_109 ⟨Nat.le_of_ble_eq_true rfl, Nat.le_of_ble_eq_true rfl⟩ (fun x_331 f_332 H locs hw hP hD hS => ?_)
                    obtain ⟨hG, bx_331, hkc_333, hfc_334, hfc_335, hfc_336, hfc_337, hrc_338, hrc_339⟩ := hw
                    have hfo_341 : f_332 a_2 = .inr (7, [.ref a_13, .int v_14, .ref a_59, .ref a_16, .ref a_61, .ref a_62, .int v_63, .ref a_64, .ref a_65, .ref a_66, .ref a_67, .ref a_24, .int v_25, .ref a_70, .ref a_71, .ref a_72]) := by rw [hkc_333 a_2 (by rw [ka_2]; decide)]; exact hfo_306
                    have hfo_342 : f_332 a_24 = .inl (cR, 8, .inr (.inr (.inr (.inr g_76)))) := by rw [hkc_333 a_24 (by rw [ka_24]; decide)]; exact hfo_307
                    have hfo_343 : f_332 a_77 = .inr (4, [.int v_273, .int v_224, .int v_275, .int v_276, .ref a_277, .ref a_278, .ref a_279, .ref a_280, .int v_281, .int v_282, .int v_283]) := by rw [hkc_333 a_77 (by rw [ka_77]; decide)]; exact hfo_308
                    have hfr0 : ∀ b, kd b ≠ 2 → kd b ≠ 204 → kd b ≠ 205 → kd b ≠ 207 → kd b ≠ 558 → kd b ≠ 559 → kd b ≠ 568 → kd b ≠ 569 → kd b ≠ 570 → kd b ≠ 571 → kd b ≠ 572 → f_332 b = f b := fun b q2 q204 q205 q207 q558 q559 q568 q569 q570 q571 q572 => (hkc_333 b q2).trans (hfr0 b q2 q204 q205 q207 q558 q559 q568 q569 q570 q571 q572)
                    have hfr2_4 : ∀ b, kd b = 2 → fldI (f_332 b) 4 = fldI (f b) 4 := fun b kb => (hfc_334 b kb).trans (hfr2_4 b kb)
                    have hfr207_1 : ∀ b, kd b = 207 → fldI (f_332 b) 1 = fldI (f b) 1 := fun b kb => (congrArg (fun x => fldI x 1) (hkc_333 b (by rw [kb]; decide))).trans (hfr207_1 b kb)
                    have hrr2_0 : ∀ b, kd b = 2 → fldR (f_332 b) 0 = fldR (f b) 0 := fun b kb => (hrc_338 b kb).trans (hrr2_0 b kb)
                    have hrr2_3 : ∀ b, kd b = 2 → fldR (f_332 b) 3 = fldR (f b) 3 := fun b kb => (hrc_339 b kb).trans (hrr2_3 b kb)
                    have hrr207_0 : ∀ b, kd b = 207 → fldR (f_332 b) 0 = fldR (f b) 0 := fun b kb => (congrArg (fun x => fldR x 0) (hkc_333 b (by rw [kb]; decide))).trans (hrr207_0 b kb)
                    have hrr207_3 : ∀ b, kd b = 207 → fldR (f_332 b) 3 = fldR (f b) 3 := fun b kb => (congrArg (fun x => fldR x 3) (hkc_333 b (by rw [kb]; decide))).trans (hrr207_3 b kb)
                    have hrr207_11 : ∀ b, kd b = 207 → fldR (f_332 b) 11 = fldR (f b) 11 := fun b kb => (congrArg (fun x => fldR x 11) (hkc_333 b (by rw [kb]; decide))).trans (hrr207_11 b kb)
                    have hTt_111 : trel kd 207 566 568 573 204 f_332 a_2 := hTt_111.keep (fun b q => hkc_333 b (by rw [q]; decide)) (fun b q => hkc_333 b (by rw [q]; decide)) (fun b q => hkc_333 b (by rw [q]; decide)) (fun b q => hkc_333 b (by rw [q]; decide)) (fun b q => congrArg (fun x => fldI x 1) (hkc_333 b (by rw [q]; decide)))
                    obtain ⟨a_345, v_346, v_347, a_348, v_349, v_350, v_351, v_352, v_353, v_354, hfo_344, ⟨ma_345, ka_345⟩, ⟨ma_348, ka_348⟩, bv_349, bv_350, bv_351, bv_352, bv_353⟩ := un_2 (hG _ mo0) ko0
                    have bv_346 : ((-2147483648) ≤ v_346.toInt ∧ v_346.toInt ≤ 2147483647) := ⟨i32_lo _, i32_hi _⟩
                    have bv_347 : ((-2147483648) ≤ v_347.toInt ∧ v_347.toInt ≤ 2147483647) := ⟨i32_lo _, i32_hi _⟩
                    have bv_354 : ((-2147483648) ≤ v_354.toInt ∧ v_354.toInt ≤ 2147483647) := ⟨i32_lo _, i32_hi _⟩
                    obtain rfl : a_2 = a_345 := by have hk9 := hrr2_0 o0 ko0; rw [hfo_344, hfo_1] at hk9; exact (Option.some.inj hk9).symm
                    obtain rfl : a_5 = a_348 := by have hk9 := hrr2_3 o0 ko0; rw [hfo_344, hfo_1] at hk9; exact (Option.some.inj hk9).symm
                    obtain rfl : v_239 = v_349 := by have hk9 := hfc_334 o0 ko0; rw [hfo_344, hfo_309] at hk9; exact (Option.some.inj hk9).symm
                    obtain rfl : v_315 = v_350 := by have hk9 := hfc_335 o0 ko0; rw [hfo_344, hfo_309] at hk9; exact (Option.some.inj hk9).symm
                    obtain rfl : v_242 = v_352 := by have hk9 := hfc_336 o0 ko0; rw [hfo_344, hfo_309] at hk9; exact (Option.some.inj hk9).symm
                    obtain rfl : v_243 = v_353 := by have hk9 := hfc_337 o0 ko0; rw [hfo_344, hfo_309] at hk9; exact (Option.some.inj hk9).symm
                    exact W.zret (v := x_331) (ty := .boolean) hx hb hr (zb_n (by constructor <;> omega)) (fun t ht hW => ⟨⟨x_331, f_332, rfl, ⟨hG, (by constructor <;> omega), hfr0, hfr2_4, hfr207_1, hrr2_0, hrr2_3, hrr207_0, hrr207_3, hrr207_11, (by intro w5 z5 e5 d5; rw [hfo_1] at e5; rw [hfo_344] at d5; obtain rfl := Option.some.inj e5; obtain rfl := Option.some.inj d5; omega), (fun d9 h9 => by rw [hfo_344] at h9; obtain rfl := Option.some.inj h9; exact hTt_111)⟩, by rw [ht]; exact hP, va_K.moved hW.alike hK, pl_in hD⟩, hS.F ht⟩) hS.2.2 dX2_readRule_112
                · skip
                  rw [← Int32.toInt_inj, ti_0] at c_320
                  refine lv_goto (tgt := 129) hx hb dX2_readRule_92 (by decide) ?_
                  have hTq := hTt_111
                  obtain ⟨g_356, hfo_355, hbg_356⟩ := un_566 (hG _ ma_13) ka_13
                  obtain ⟨g_358, hfo_357, hbg_358⟩ := un_568 (hG _ ma_16) ka_16
                  obtain ⟨tqn, tqp, tqc, tqs, tqa, tqr, tqg, tqh, tqq, ⟨-, -, -, -⟩, ⟨tqt1, tqt2, tqt3, tqt4, tqt5, tqt6⟩, ⟨tqw1, tqw2, tqw3⟩, tq4, tq5, tq6, tq7⟩ := hTq
                  rw [hfo_306] at tqt1 tqt2 tqt3 tqt4 tqt5 tqt6
                  obtain rfl := Option.some.inj tqt1
                  obtain rfl := Option.some.inj tqt2
                  obtain rfl := Option.some.inj tqt3
                  obtain rfl := Option.some.inj tqt4
                  obtain rfl := Option.some.inj tqt5
                  obtain rfl := Option.some.inj tqt6
                  rw [hfo_355] at tqw1
                  obtain rfl := Option.some.inj tqw1
                  rw [hfo_357] at tqw2
                  obtain rfl := Option.some.inj tqw2
                  rw [hfo_307] at tqw3
                  obtain rfl := Option.some.inj tqw3
                  refine lv_aload_n hx hb dX2_readRule_129 rfl (lv_at hl 2 rfl) ?_
                  refine tk_getP (D := (dC, dI)) (ci := 2) (v := .ref a_2) (C := RX2) (T := TX2) (N := 10) hx hb hU inlX2 hown hK hP mo0 hfo_309 rfl 0 (by decide) (hU _ wd_150) (fun _ h9 => h9) rfl dX2_readRule_130 ?_
                  refine lv_dup hx hb dX2_readRule_133 rfl ?_
                  refine tk_getP (D := (dC, dI)) (ci := 7) (v := .int v_25) (C := RX7) (T := TX7) (N := 16) hx hb hU inlX7 hown hK hP ma_2 hfo_306 rfl 12 (by decide) (hU _ wd_400) (fun _ h9 => h9) rfl dX2_readRule_134 ?_
                  refine lv_iconst (v := 1) hx hb dX2_readRule_137 (by decide) ?_
                  refine lv_iadd hx hb dX2_readRule_138 ?_
                  refine lv_topi (fun x_359 ex_359 => ?_)
                  have hx_359 : x_359.toInt = v_25.toInt + 1 := by rw [ex_359, ad_I (by rw [ti_1]; omega) (by rw [ti_1]; omega), ti_1]
                  have bx_359 : (1 ≤ x_359.toInt ∧ x_359.toInt ≤ 8) := by constructor <;> omega
                  refine tk_putP (D := (dC, dI)) (ci := 7) (v := .int x_359) (ty := .int) (C := RX7) (T := TX7) (N := 16) hx hb hU inlX7 tyX7 tyX7_ok nmX7 hown hK hP hD hS ma_2 hfo_306 rfl 12 (by decide) (hU _ wd_400) (fun _ h9 => h9) rfl (by decide +kernel) rfl rfl (Nat.le_of_ble_eq_true rfl) dX2_readRule_139 (fun H locs hP hD hS => ?_)
                  obtain ⟨f_361, ef_361⟩ : ∃ y : Nat → va_E, y = va_up f_297 a_2 (.inr (7, [.ref a_13, .int v_14, .ref a_59, .ref a_16, .ref a_61, .ref a_62, .int v_63, .ref a_64, .ref a_65, .ref a_66, .ref a_67, .ref a_24, .int x_359, .ref a_70, .ref a_71, .ref a_72])) := ⟨_, rfl⟩
                  have hP : va_P (dC, dI) vwCl (va_pl L f_361) H := by rw [ef_361]; exact hP
                  have hD : va_D (fun q => q ∈ L) (va_pl L f_361) := by rw [ef_361]; exact hD
                  have hG : GI (okc cI cL cZ cR cG cH L kd) kd L f_361 := by rw [ef_361]; exact hG.set a_2 (mk_207 ka_2 ⟨a_13, v_14, a_59, a_16, a_61, a_62, v_63, a_64, a_65, a_66, a_67, a_24, x_359, a_70, a_71, a_72, rfl, ⟨ma_13, ka_13⟩, (by constructor <;> omega), ⟨ma_59, ka_59⟩, ⟨ma_16, ka_16⟩, ⟨ma_61, ka_61⟩, ⟨ma_62, ka_62⟩, (by constructor <;> omega), ⟨ma_64, ka_64⟩, ⟨ma_65, ka_65⟩, ⟨ma_66, ka_66⟩, ⟨ma_67, ka_67⟩, ⟨ma_24, ka_24⟩, (by constructor <;> omega), ⟨ma_70, ka_70⟩, ⟨ma_71, ka_71⟩, ⟨ma_72, ka_72⟩⟩)
                  have hfo_362 : f_361 a_24 = .inl (cR, 8, .inr (.inr (.inr (.inr g_76)))) := by rw [ef_361, up_ne (kd_ne ka_2 ka_24 (by decide))]; exact hfo_307
                  have hfo_363 : f_361 a_77 = .inr (4, [.int v_273, .int v_224, .int v_275, .int v_276, .ref a_277, .ref a_278, .ref a_279, .ref a_280, .int v_281, .int v_282, .int v_283]) := by rw [ef_361, up_ne (kd_ne ka_2 ka_77 (by decide))]; exact hfo_308
                  have hfo_364 : f_361 o0 = .inr (2, [.ref a_2, .int v_311, .int v_312, .ref a_5, .int v_239, .int v_315, .int v_316, .int v_242, .int v_243, .int v_319]) := by rw [ef_361, up_ne (kd_ne ka_2 ko0 (by decide))]; exact hfo_309
                  have hfo_365 : f_361 a_13 = .inl (cI, 26, .inl g_356) := by rw [ef_361, up_ne (kd_ne ka_2 ka_13 (by decide))]; exact hfo_355
                  have hfo_366 : f_361 a_16 = .inl (cI, 81, .inl g_358) := by rw [ef_361, up_ne (kd_ne ka_2 ka_16 (by decide))]; exact hfo_357
                  have hfr0 : ∀ b, kd b ≠ 2 → kd b ≠ 204 → kd b ≠ 205 → kd b ≠ 207 → kd b ≠ 558 → kd b ≠ 559 → kd b ≠ 568 → kd b ≠ 569 → kd b ≠ 570 → kd b ≠ 571 → kd b ≠ 572 → f_361 b = f b := fun b q2 q204 q205 q207 q558 q559 q568 q569 q570 q571 q572 => (congrFun ef_361 b).trans ((up_ne (fun e9 => q207 (by rw [e9]; exact ka_2))).trans (hfr0 b q2 q204 q205 q207 q558 q559 q568 q569 q570 q571 q572))
                  have hfr2_4 : ∀ b, kd b = 2 → fldI (f_361 b) 4 = fldI (f b) 4 := fun b kb => (congrArg (fun x => fldI x 4) ((congrFun ef_361 b).trans (up_ne (kd_ne ka_2 kb (by decide))))).trans (hfr2_4 b kb)
                  have hfr207_1 : ∀ b, kd b = 207 → fldI (f_361 b) 1 = fldI (f b) 1 := fun b kb => ((congrArg (fun x => fldI x 1) (congrFun ef_361 b)).trans (fk_up (by rw [hfo_306]; rfl) b)).trans (hfr207_1 b kb)
                  have hrr2_0 : ∀ b, kd b = 2 → fldR (f_361 b) 0 = fldR (f b) 0 := fun b kb => (congrArg (fun x => fldR x 0) ((congrFun ef_361 b).trans (up_ne (kd_ne ka_2 kb (by decide))))).trans (hrr2_0 b kb)
                  have hrr2_3 : ∀ b, kd b = 2 → fldR (f_361 b) 3 = fldR (f b) 3 := fun b kb => (congrArg (fun x => fldR x 3) ((congrFun ef_361 b).trans (up_ne (kd_ne ka_2 kb (by decide))))).trans (hrr2_3 b kb)
                  have hrr207_0 : ∀ b, kd b = 207 → fldR (f_361 b) 0 = fldR (f b) 0 := fun b kb => ((congrArg (fun x => fldR x 0) (congrFun ef_361 b)).trans (fr_up (by rw [hfo_306]; rfl) b)).trans (hrr207_0 b kb)
                  have hrr207_3 : ∀ b, kd b = 207 → fldR (f_361 b) 3 = fldR (f b) 3 := fun b kb => ((congrArg (fun x => fldR x 3) (congrFun ef_361 b)).trans (fr_up (by rw [hfo_306]; rfl) b)).trans (hrr207_3 b kb)
                  have hrr207_11 : ∀ b, kd b = 207 → fldR (f_361 b) 11 = fldR (f b) 11 := fun b kb => ((congrArg (fun x => fldR x 11) (congrFun ef_361 b)).trans (fr_up (by rw [hfo_306]; rfl) b)).trans (hrr207_11 b kb)
                  have hfo_367 : f_361 a_2 = .inr (7, [.ref a_13, .int v_14, .ref a_59, .ref a_16, .ref a_61, .ref a_62, .int v_63, .ref a_64, .ref a_65, .ref a_66, .ref a_67, .ref a_24, .int x_359, .ref a_70, .ref a_71, .ref a_72]) := by rw [ef_361]; exact up_self
                  refine lv_iconst (v := 1) hx hb dX2_readRule_142 (by decide) ?_
                  exact W.zret (v := 1) (ty := .boolean) hx hb hr rfl (fun t ht hW => ⟨⟨1, f_361, rfl, ⟨hG, (by decide), hfr0, hfr2_4, hfr207_1, hrr2_0, hrr2_3, hrr207_0, hrr207_3, hrr207_11, (by intro w5 z5 e5 d5; rw [hfo_1] at e5; rw [hfo_364] at d5; obtain rfl := Option.some.inj e5; obtain rfl := Option.some.inj d5; (try rw [ti_1]) <;> omega), (fun d9 h9 => by rw [hfo_364] at h9; obtain rfl := Option.some.inj h9; exact ⟨v_14, v_63, x_359, a_13, a_16, a_24, g_356, g_358, g_76, ⟨ka_2, ka_13, ka_16, ka_24⟩, (by rw [hfo_367]; exact ⟨rfl, rfl, rfl, rfl, rfl, rfl⟩), ⟨by rw [hfo_365]; rfl, by rw [hfo_366]; rfl, by rw [hfo_362]; rfl⟩, tq4, tq5, tq6, (fun k9 hk9 => by by_cases hkc : (k9 : Int) = v_25.toInt; (· refine ⟨a_77, v_224, ?_, ka_77, ?_, by omega⟩; (· have hc9 := cl_I (i := v_25) (by omega); rw [show k9 = Int32.toNatClampNeg v_25 by omega]; exact hga_77); (· rw [ef_361, up_ne (kd_ne ka_2 ka_77 (by decide)), hfo_308]; rfl)); (· obtain ⟨b, w, w1, w2, w3, w4⟩ := tq7 k9 (by omega); exact ⟨b, w, w1, w2, by rw [ef_361, up_ne (kd_ne ka_2 w2 (by decide))]; exact w3, w4⟩))⟩)⟩, by rw [ht]; exact hP, va_K.moved hW.alike hK, pl_in hD⟩, hS.F ht⟩) hS.2.2 dX2_readRule_143
              · skip
                rw [← Int32.toInt_inj, ti_0] at c_295
                refine lv_iconst (v := 0) hx hb dX2_readRule_81 (by decide) ?_
                exact W.zret (v := 0) (ty := .boolean) hx hb hr rfl (fun t ht hW => ⟨⟨0, f_260, rfl, ⟨hG, (by decide), hfr0, hfr2_4, hfr207_1, hrr2_0, hrr2_3, hrr207_0, hrr207_3, hrr207_11, (by intro w5 z5 e5 d5; rw [hfo_1] at e5; rw [hfo_284] at d5; obtain rfl := Option.some.inj e5; obtain rfl := Option.some.inj d5; (try rw [ti_0]) <;> omega), (fun d9 h9 => by rw [hfo_284] at h9; obtain rfl := Option.some.inj h9; exact hTt_111)⟩, by rw [ht]; exact hP, va_K.moved hW.alike hK, pl_in hD⟩, hS.F ht⟩) hS.2.2 dX2_readRule_82
        exact hloop_216 5 0 (by decide) f_113 hG _ _ hP hS hD hfr0 hfr2_4 hfr207_1 hrr2_0 hrr2_3 hrr207_0 hrr207_3 hrr207_11 hfo_124 hfo_125 hTt_111 v_103 (by rw [hfo_137]; rfl) v_101 (by rw [hfo_137]; rfl) v_132 (by rw [hfo_126]; rfl) (by (try rw [ti_0]) <;> omega) (by (try rw [ti_0]) <;> omega) (by (try rw [ti_0]) <;> omega) (by (try rw [ti_0]) <;> omega) (by (try rw [ti_0]) <;> omega) (by (try rw [ti_0]) <;> omega) ls hl
      · skip
        rw [← Int32.toInt_inj, ti_0] at c_149
        refine lv_iconst (v := 0) hx hb dX2_readRule_64 (by decide) ?_
        exact W.zret (v := 0) (ty := .boolean) hx hb hr rfl (fun t ht hW => ⟨⟨0, f_113, rfl, ⟨hG, (by decide), hfr0, hfr2_4, hfr207_1, hrr2_0, hrr2_3, hrr207_0, hrr207_3, hrr207_11, (by intro w5 z5 e5 d5; rw [hfo_1] at e5; rw [hfo_126] at d5; obtain rfl := Option.some.inj e5; obtain rfl := Option.some.inj d5; (try rw [ti_0]) <;> omega), (fun d9 h9 => by rw [hfo_126] at h9; obtain rfl := Option.some.inj h9; exact hTt_111)⟩, by rw [ht]; exact hP, va_K.moved hW.alike hK, pl_in hD⟩, hS.F ht⟩) hS.2.2 dX2_readRule_65
    · skip
      rw [← Int32.toInt_inj, ti_0] at c_74
      refine lv_iconst (v := 0) hx hb dX2_readRule_26 (by decide) ?_
      exact W.zret (v := 0) (ty := .boolean) hx hb hr rfl (fun t ht hW => ⟨⟨0, f_31, rfl, ⟨hG, (by decide), hfr0, hfr2_4, hfr207_1, hrr2_0, hrr2_3, hrr207_0, hrr207_3, hrr207_11, (by intro w5 z5 e5 d5; rw [hfo_1] at e5; rw [hfo_45] at d5; obtain rfl := Option.some.inj e5; obtain rfl := Option.some.inj d5; (try rw [ti_0]) <;> omega), (fun d9 h9 => by rw [hfo_45] at h9; obtain rfl := Option.some.inj h9; exact hT_73)⟩, by rw [ht]; exact hP, va_K.moved hW.alike hK, pl_in hD⟩, hS.F ht⟩) hS.2.2 dX2_readRule_27
  · skip
    rw [← Int32.toInt_inj, ti_8] at c_29
    refine lv_aload_n hx hb dX2_readRule_12 rfl (lv_at hl 0 rfl) ?_
    refine lv_iconst (v := 3) hx hb dX2_readRule_13 (by decide) ?_
    refine lv_iload_n hx hb dX2_readRule_14 rfl (lv_at hl 1 rfl) ?_
    refine tk_ViP (As := [.int 3, .int p1]) (rest := []) (n := 2) hx hb hml hown hU hN hZ (s_X2_fail_k2 l (dC, dI) cI cL cZ cR cG cH Z kd L f hG o0 mo0 ko0 3 p1) wd_349 wd_350 wd_351 wd_33 wd_352 (by decide +kernel) ⟨Nat.le_of_ble_eq_true rfl, Nat.le_of_ble_eq_true rfl⟩ hK hP hD hS mo0 hfo_1 2 rfl rfl rfl hl.1 rfl (Nat.le_of_ble_eq_true rfl) dX2_readRule_15 ⟨Nat.le_of_ble_eq_true rfl, Nat.le_of_ble_eq_true rfl⟩ (fun x_368 f_369 H locs hw hP hD hS => ?_)
    obtain ⟨hG, bx_368, hkc_370, hfc_371, hfc_372, hfc_373, hfc_374, hrc_375, hrc_376⟩ := hw
    have hfo_378 : f_369 a_2 = .inr (7, [.ref a_13, .int v_14, .ref a_15, .ref a_16, .ref a_17, .ref a_18, .int v_19, .ref a_20, .ref a_21, .ref a_22, .ref a_23, .ref a_24, .int v_25, .ref a_26, .ref a_27, .ref a_28]) := by rw [hkc_370 a_2 (by rw [ka_2]; decide)]; exact hfo_12
    have hfr0 : ∀ b, kd b ≠ 2 → kd b ≠ 204 → kd b ≠ 205 → kd b ≠ 207 → kd b ≠ 558 → kd b ≠ 559 → kd b ≠ 568 → kd b ≠ 569 → kd b ≠ 570 → kd b ≠ 571 → kd b ≠ 572 → f_369 b = f b := fun b q2 q204 q205 q207 q558 q559 q568 q569 q570 q571 q572 => (hkc_370 b q2).trans (hfr0 b q2 q204 q205 q207 q558 q559 q568 q569 q570 q571 q572)
    have hfr2_4 : ∀ b, kd b = 2 → fldI (f_369 b) 4 = fldI (f b) 4 := fun b kb => (hfc_371 b kb).trans (hfr2_4 b kb)
    have hfr207_1 : ∀ b, kd b = 207 → fldI (f_369 b) 1 = fldI (f b) 1 := fun b kb => (congrArg (fun x => fldI x 1) (hkc_370 b (by rw [kb]; decide))).trans (hfr207_1 b kb)
    have hrr2_0 : ∀ b, kd b = 2 → fldR (f_369 b) 0 = fldR (f b) 0 := fun b kb => (hrc_375 b kb).trans (hrr2_0 b kb)
    have hrr2_3 : ∀ b, kd b = 2 → fldR (f_369 b) 3 = fldR (f b) 3 := fun b kb => (hrc_376 b kb).trans (hrr2_3 b kb)
    have hrr207_0 : ∀ b, kd b = 207 → fldR (f_369 b) 0 = fldR (f b) 0 := fun b kb => (congrArg (fun x => fldR x 0) (hkc_370 b (by rw [kb]; decide))).trans (hrr207_0 b kb)
    have hrr207_3 : ∀ b, kd b = 207 → fldR (f_369 b) 3 = fldR (f b) 3 := fun b kb => (congrArg (fun x => fldR x 3) (hkc_370 b (by rw [kb]; decide))).trans (hrr207_3 b kb)
    have hrr207_11 : ∀ b, kd b = 207 → fldR (f_369 b) 11 = fldR (f b) 11 := fun b kb => (congrArg (fun x => fldR x 11) (hkc_370 b (by rw [kb]; decide))).trans (hrr207_11 b kb)
    have hT0 : trel kd 207 566 568 573 204 f_369 a_2 := hT0.keep (fun b q => hkc_370 b (by rw [q]; decide)) (fun b q => hkc_370 b (by rw [q]; decide)) (fun b q => hkc_370 b (by rw [q]; decide)) (fun b q => hkc_370 b (by rw [q]; decide)) (fun b q => congrArg (fun x => fldI x 1) (hkc_370 b (by rw [q]; decide)))
    obtain ⟨a_380, v_381, v_382, a_383, v_384, v_385, v_386, v_387, v_388, v_389, hfo_379, ⟨ma_380, ka_380⟩, ⟨ma_383, ka_383⟩, bv_384, bv_385, bv_386, bv_387, bv_388⟩ := un_2 (hG _ mo0) ko0
    have bv_381 : ((-2147483648) ≤ v_381.toInt ∧ v_381.toInt ≤ 2147483647) := ⟨i32_lo _, i32_hi _⟩
    have bv_382 : ((-2147483648) ≤ v_382.toInt ∧ v_382.toInt ≤ 2147483647) := ⟨i32_lo _, i32_hi _⟩
    have bv_389 : ((-2147483648) ≤ v_389.toInt ∧ v_389.toInt ≤ 2147483647) := ⟨i32_lo _, i32_hi _⟩
    obtain rfl : a_2 = a_380 := by have hk9 := hrr2_0 o0 ko0; rw [hfo_379, hfo_1] at hk9; exact (Option.some.inj hk9).symm
    obtain rfl : a_5 = a_383 := by have hk9 := hrr2_3 o0 ko0; rw [hfo_379, hfo_1] at hk9; exact (Option.some.inj hk9).symm
    obtain rfl : v_6 = v_384 := by have hk9 := hfc_371 o0 ko0; rw [hfo_379, hfo_1] at hk9; exact (Option.some.inj hk9).symm
    obtain rfl : v_7 = v_385 := by have hk9 := hfc_372 o0 ko0; rw [hfo_379, hfo_1] at hk9; exact (Option.some.inj hk9).symm
    obtain rfl : v_9 = v_387 := by have hk9 := hfc_373 o0 ko0; rw [hfo_379, hfo_1] at hk9; exact (Option.some.inj hk9).symm
    obtain rfl : v_10 = v_388 := by have hk9 := hfc_374 o0 ko0; rw [hfo_379, hfo_1] at hk9; exact (Option.some.inj hk9).symm
    exact W.zret (v := x_368) (ty := .boolean) hx hb hr (zb_n (by constructor <;> omega)) (fun t ht hW => ⟨⟨x_368, f_369, rfl, ⟨hG, (by constructor <;> omega), hfr0, hfr2_4, hfr207_1, hrr2_0, hrr2_3, hrr207_0, hrr207_3, hrr207_11, (by intro w5 z5 e5 d5; rw [hfo_1] at e5; rw [hfo_379] at d5; obtain rfl := Option.some.inj e5; obtain rfl := Option.some.inj d5; omega), (fun d9 h9 => by rw [hfo_379] at h9; obtain rfl := Option.some.inj h9; exact hT0)⟩, by rw [ht]; exact hP, va_K.moved hW.alike hK, pl_in hD⟩, hS.F ht⟩) hS.2.2 dX2_readRule_18
