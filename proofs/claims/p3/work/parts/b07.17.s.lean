set_option maxHeartbeats 8000000 in
set_option maxRecDepth 100000 in
theorem s_X11_forced_k11 (l : Launch) (D : va_G) (cI cL cZ cR cG cH : ClassId) (Z : zT) (kd : Nat → Nat) (L : List Nat) (f : Nat → va_E) (hG : GI (okc cI cL cZ cR cG cH L kd) kd L f) (o0 : Nat) (mo0 : o0 ∈ L) (ko0 : kd o0 = 11) (p1 : Int32) : mPI l D cI cL cZ cR cG cH Z yX11_forced cX11_forced 3 (some .int) 7 174 [.ref o0, .int p1] L f (fun (r : Int32) (f9 : Nat → va_E) => GI (okc cI cL cZ cR cG cH L kd) kd L f9 ∧ ((-2147483648) ≤ r.toInt ∧ r.toInt ≤ 2147483647) ∧ (∀ b, kd b ≠ 3 → kd b ≠ 507 → kd b ≠ 525 → kd b ≠ 527 → kd b ≠ 531 → kd b ≠ 532 → f9 b = f b) ∧ (∀ b, kd b = 3 → fldR (f9 b) 0 = fldR (f b) 0) ∧ (∀ b, kd b = 3 → fldR (f9 b) 3 = fldR (f b) 3)) := by
  obtain ⟨dC, dI⟩ := D
  refine Met.ofW (cc := cX11_forced) (maxL := 3) (ret := (some .int)) (by decide) rfl ?_
  intro p e s m args below meth c s₁ B hml hv
  obtain ⟨rfl, hP, hK, hD0, hN, hZ⟩ := hv
  have hx := B.exec
  have hb := B.bytes
  have hr := B.returns
  have hU : ∀ w ∈ wsU, w.before _ s = true := fun w h => atoms_spec (ws := wU yX11_forced cX11_forced 3 (some .int)) B.pre w (List.mem_cons_of_mem _ h)
  have hown : s.vm.findClass RX11 = some m.cls := findClass_of_methodNamed B.named
  have hlocks := B.notSynchronized
  have hD := pl_in hD0
  have hS : va_S (fun q => q ∈ L) s.heap s.heap [] := va_S.rf
  have hl := lv_entry ([.ref o0, .int p1]) (n := 3) (Nat.le_of_ble_eq_true rfl)
  rw [lg_entry_eq]
  generalize (lg_sl ([.ref o0, .int p1]) ++ List.replicate (3 - (lg_sl ([.ref o0, .int p1])).length) Slot.unset).toArray = ls at hl ⊢
  have hl : lv_has ls 3 [(0, .ref o0), (1, .int p1)] := hl
  have bp1 : ((-2147483648) ≤ p1.toInt ∧ p1.toInt ≤ 2147483647) := ⟨i32_lo _, i32_hi _⟩
  have hfr0 : ∀ b, kd b ≠ 3 → kd b ≠ 507 → kd b ≠ 525 → kd b ≠ 527 → kd b ≠ 531 → kd b ≠ 532 → f b = f b := fun _ _ _ _ _ _ _ => rfl
  have hrr3_0 : ∀ b, kd b = 3 → fldR (f b) 0 = fldR (f b) 0 := fun _ _ => rfl
  have hrr3_3 : ∀ b, kd b = 3 → fldR (f b) 3 = fldR (f b) 3 := fun _ _ => rfl
  refine lv_aload_n hx hb dX11_forced_0 rfl (lv_at hl 0 rfl) ?_
  refine lv_iload_n hx hb dX11_forced_1 rfl (lv_at hl 1 rfl) ?_
  obtain ⟨a_2, v_3, a_4, a_5, a_6, a_7, a_8, a_9, v_10, a_11, a_12, a_13, v_14, v_15, a_16, v_17, a_18, a_19, v_20, hfo_1, ⟨ma_2, ka_2⟩, bv_3, ⟨ma_4, ka_4⟩, ⟨ma_5, ka_5⟩, ⟨ma_6, ka_6⟩, ⟨ma_7, ka_7⟩, ⟨ma_8, ka_8⟩, ⟨ma_9, ka_9⟩, bv_10, ⟨ma_11, ka_11⟩, ⟨ma_12, ka_12⟩, ⟨ma_13, ka_13⟩, bv_14, ⟨ma_16, ka_16⟩, bv_17, ⟨ma_18, ka_18⟩, ⟨ma_19, ka_19⟩⟩ := un_11 (hG _ mo0) ko0
  have bv_15 : ((-2147483648) ≤ v_15.toInt ∧ v_15.toInt ≤ 2147483647) := ⟨i32_lo _, i32_hi _⟩
  have bv_20 : ((-2147483648) ≤ v_20.toInt ∧ v_20.toInt ≤ 2147483647) := ⟨i32_lo _, i32_hi _⟩
  refine tk_ViP (As := [.int p1]) (rest := []) (n := 1) hx hb hml hown hU hN hZ (s_X11_isRule_k11 l (dC, dI) cI cL cZ cR cG cH Z kd L f hG o0 mo0 ko0 p1) wd_1135 wd_1136 wd_1137 wd_2 wd_1138 (by decide +kernel) ⟨Nat.le_of_ble_eq_true rfl, Nat.le_of_ble_eq_true rfl⟩ hK hP hD hS mo0 hfo_1 11 rfl rfl rfl hl.1 rfl (Nat.le_of_ble_eq_true rfl) dX11_forced_2 ⟨Nat.le_of_ble_eq_true rfl, Nat.le_of_ble_eq_true rfl⟩ (fun x_21 f_22 H locs hw hP hD hS => ?_)
  obtain ⟨rfl, bx_21, relx_21⟩ := hw
  refine lv_if_ne (tgt := 10) hx hb dX11_forced_5 (by decide) (fun c_24 => ?_) (fun c_24 => ?_)
  · skip
    rw [← Int32.toInt_inj, ti_0] at c_24
    refine lv_aload_n hx hb dX11_forced_10 rfl (lv_at hl 0 rfl) ?_
    refine tk_ViP (As := []) (rest := []) (n := 0) hx hb hml hown hU hN hZ (s_X11_learn_k11 l (dC, dI) cI cL cZ cR cG cH Z kd L f hG o0 mo0 ko0) wd_1450 wd_1433 wd_1434 wd_2 wd_1435 (by decide +kernel) ⟨Nat.le_of_ble_eq_true rfl, Nat.le_of_ble_eq_true rfl⟩ hK hP hD hS mo0 hfo_1 11 rfl rfl rfl hl.1 rfl (Nat.le_of_ble_eq_true rfl) dX11_forced_11 ⟨Nat.le_of_ble_eq_true rfl, Nat.le_of_ble_eq_true rfl⟩ (fun x_25 f_26 H locs hw hP hD hS => ?_)
    obtain ⟨hG, bx_25, hkc_27, hrc_28, hrc_29⟩ := hw
    have hfo_31 : f_26 o0 = .inr (11, [.ref a_2, .int v_3, .ref a_4, .ref a_5, .ref a_6, .ref a_7, .ref a_8, .ref a_9, .int v_10, .ref a_11, .ref a_12, .ref a_13, .int v_14, .int v_15, .ref a_16, .int v_17, .ref a_18, .ref a_19, .int v_20]) := by rw [hkc_27 o0 (by rw [ko0]; decide) (by rw [ko0]; decide) (by rw [ko0]; decide) (by rw [ko0]; decide) (by rw [ko0]; decide) (by rw [ko0]; decide)]; exact hfo_1
    have hfr0 : ∀ b, kd b ≠ 3 → kd b ≠ 507 → kd b ≠ 525 → kd b ≠ 527 → kd b ≠ 531 → kd b ≠ 532 → f_26 b = f b := fun b q3 q507 q525 q527 q531 q532 => (hkc_27 b q3 q507 q525 q527 q531 q532).trans (hfr0 b q3 q507 q525 q527 q531 q532)
    have hrr3_0 : ∀ b, kd b = 3 → fldR (f_26 b) 0 = fldR (f b) 0 := fun b kb => (hrc_28 b kb).trans (hrr3_0 b kb)
    have hrr3_3 : ∀ b, kd b = 3 → fldR (f_26 b) 3 = fldR (f b) 3 := fun b kb => (hrc_29 b kb).trans (hrr3_3 b kb)
    refine lv_istore_n (lv' := [(2, .int x_25), (0, .ref o0), (1, .int p1)]) hx hb dX11_forced_14 rfl hl (by decide) rfl (fun ls hl => ?_)
    refine lv_iload_n hx hb dX11_forced_15 rfl (lv_at hl 0 rfl) ?_
    refine lv_iconst (v := (-1)) hx hb dX11_forced_16 (by decide) ?_
    refine lv_icmp_eq (tgt := 28) hx hb dX11_forced_17 (by decide) (fun c_32 => ?_) (fun c_32 => ?_)
    · skip
      rw [← Int32.toInt_inj, ti_m1] at c_32
      refine lv_iconst (v := (-1)) hx hb dX11_forced_28 (by decide) ?_
      exact W.iret (v := (-1)) hx hb hr (fun t ht hW => ⟨⟨(-1), f_26, rfl, ⟨hG, (by decide), hfr0, hrr3_0, hrr3_3⟩, by rw [ht]; exact hP, va_K.moved hW.alike hK, pl_in hD⟩, hS.F ht⟩) hS.2.2 dX11_forced_29
    · skip
      rw [← Int32.toInt_inj, ti_m1] at c_32
      refine lv_iload_n hx hb dX11_forced_20 rfl (lv_at hl 0 rfl) ?_
      refine lv_iload_n hx hb dX11_forced_21 rfl (lv_at hl 2 rfl) ?_
      refine lv_ishr hx hb dX11_forced_22 ?_
      refine lv_topi (fun x_33 ex_33 => ?_)
      have bx_33 : ((-2147483648) ≤ x_33.toInt ∧ x_33.toInt ≤ 2147483647) := ⟨i32_lo _, i32_hi _⟩
      refine lv_iconst (v := 1) hx hb dX11_forced_23 (by decide) ?_
      refine lv_iand hx hb dX11_forced_24 ?_
      refine lv_topi (fun x_34 ex_34 => ?_)
      have bx_34 : (0 ≤ x_34.toInt ∧ x_34.toInt ≤ 1) := by rw [ex_34]; have h8 := an_C x_33 (m := 1) (by decide); rw [ti_1] at h8; exact h8
      refine lv_if_ne (tgt := 30) hx hb dX11_forced_25 (by decide) (fun c_35 => ?_) (fun c_35 => ?_)
      · skip
        rw [← Int32.toInt_inj, ti_0] at c_35
        refine lv_aload_n hx hb dX11_forced_30 rfl (lv_at hl 1 rfl) ?_
        refine tk_getP (D := (dC, dI)) (ci := 11) (v := .ref a_7) (C := RX11) (T := TX11) (N := 19) hx hb hU inlX11 hown hK hP mo0 hfo_31 rfl 5 (by decide) (hU _ wd_25) (fun _ h9 => h9) rfl dX11_forced_31 ?_
        refine lv_iload_n hx hb dX11_forced_34 rfl (lv_at hl 0 rfl) ?_
        refine lv_iconst (v := 1) hx hb dX11_forced_35 (by decide) ?_
        refine lv_iload_n hx hb dX11_forced_36 rfl (lv_at hl 2 rfl) ?_
        refine lv_ishl hx hb dX11_forced_37 ?_
        refine lv_topi (fun x_36 ex_36 => ?_)
        have bx_36 : (1 ≤ x_36.toInt ∧ x_36.toInt ≤ 128) := by rw [ex_36]; exact sh_7 (by constructor <;> omega)
        refine lv_iconst (v := (-1)) hx hb dX11_forced_38 (by decide) ?_
        refine lv_ixor hx hb dX11_forced_39 ?_
        refine lv_topi (fun x_37 ex_37 => ?_)
        have bx_37 : ((-2147483648) ≤ x_37.toInt ∧ x_37.toInt ≤ 2147483647) := ⟨i32_lo _, i32_hi _⟩
        refine lv_iand hx hb dX11_forced_40 ?_
        refine lv_topi (fun x_38 ex_38 => ?_)
        have bx_38 : ((-2147483648) ≤ x_38.toInt ∧ x_38.toInt ≤ 2147483647) := ⟨i32_lo _, i32_hi _⟩
        obtain ⟨v_40, v_41, a_42, a_43, a_44, v_45, a_46, a_47, a_48, hfo_39, bv_41, ⟨ma_42, ka_42⟩, ⟨ma_43, ka_43⟩, ⟨ma_44, ka_44⟩, ⟨ma_46, ka_46⟩, ⟨ma_47, ka_47⟩, ⟨ma_48, ka_48⟩⟩ := un_6 (hG _ ma_7) ka_7
        have bv_40 : ((-2147483648) ≤ v_40.toInt ∧ v_40.toInt ≤ 2147483647) := ⟨i32_lo _, i32_hi _⟩
        have bv_45 : ((-2147483648) ≤ v_45.toInt ∧ v_45.toInt ≤ 2147483647) := ⟨i32_lo _, i32_hi _⟩
        refine tk_ViP (As := [.int x_38]) (rest := []) (n := 1) hx hb hml hown hU hN hZ (s_X6_firstUntrue_k6 l (dC, dI) cI cL cZ cR cG cH Z kd L f_26 hG a_7 ma_7 ka_7 x_38) wd_1416 wd_1417 wd_1418 wd_24 wd_1419 (by decide +kernel) ⟨Nat.le_of_ble_eq_true rfl, Nat.le_of_ble_eq_true rfl⟩ hK hP hD hS ma_7 hfo_39 6 rfl rfl rfl hl.1 rfl (Nat.le_of_ble_eq_true rfl) dX11_forced_41 ⟨Nat.le_of_ble_eq_true rfl, Nat.le_of_ble_eq_true rfl⟩ (fun x_49 f_50 H locs hw hP hD hS => ?_)
        obtain ⟨rfl, bx_49⟩ := hw
        exact W.iret (v := x_49) hx hb hr (fun t ht hW => ⟨⟨x_49, f_26, rfl, ⟨hG, (by constructor <;> omega), hfr0, hrr3_0, hrr3_3⟩, by rw [ht]; exact hP, va_K.moved hW.alike hK, pl_in hD⟩, hS.F ht⟩) hS.2.2 dX11_forced_44
      · skip
        rw [← Int32.toInt_inj, ti_0] at c_35
        refine lv_iconst (v := (-1)) hx hb dX11_forced_28 (by decide) ?_
        exact W.iret (v := (-1)) hx hb hr (fun t ht hW => ⟨⟨(-1), f_26, rfl, ⟨hG, (by decide), hfr0, hrr3_0, hrr3_3⟩, by rw [ht]; exact hP, va_K.moved hW.alike hK, pl_in hD⟩, hS.F ht⟩) hS.2.2 dX11_forced_29
  · skip
    rw [← Int32.toInt_inj, ti_0] at c_24
    refine lv_iconst (v := (-1)) hx hb dX11_forced_8 (by decide) ?_
    exact W.iret (v := (-1)) hx hb hr (fun t ht hW => ⟨⟨(-1), f, rfl, ⟨hG, (by decide), hfr0, hrr3_0, hrr3_3⟩, by rw [ht]; exact hP, va_K.moved hW.alike hK, pl_in hD⟩, hS.F ht⟩) hS.2.2 dX11_forced_9
set_option maxHeartbeats 8000000 in
set_option maxRecDepth 100000 in
theorem s_X11_ages_k11 (l : Launch) (D : va_G) (cI cL cZ cR cG cH : ClassId) (Z : zT) (kd : Nat → Nat) (L : List Nat) (f : Nat → va_E) (hG : GI (okc cI cL cZ cR cG cH L kd) kd L f) (o0 : Nat) (mo0 : o0 ∈ L) (ko0 : kd o0 = 11) (hxtr0 : ∀ d9, fldR (f o0) 3 = some d9 → trel kd 7 508 510 515 4 f d9) (hxtr1 : urel kd 5 3 6 7 f o0) : mPI l D cI cL cZ cR cG cH Z yX11_ages cX11_ages 4 (some .int) 3 78 [.ref o0] L f (fun (r : Int32) (f9 : Nat → va_E) => GI (okc cI cL cZ cR cG cH L kd) kd L f9 ∧ ((-2147483648) ≤ r.toInt ∧ r.toInt ≤ 2147483647) ∧ (∀ b, kd b ≠ 11 → kd b ≠ 507 → kd b ≠ 516 → kd b ≠ 540 → f9 b = f b) ∧ (∀ b, kd b = 11 → fldI (f9 b) 8 = fldI (f b) 8) ∧ (∀ b, kd b = 11 → fldR (f9 b) 2 = fldR (f b) 2) ∧ (∀ b, kd b = 11 → fldR (f9 b) 3 = fldR (f b) 3) ∧ (∀ b, kd b = 11 → fldR (f9 b) 5 = fldR (f b) 5) ∧ (∀ b, kd b = 11 → fldR (f9 b) 6 = fldR (f b) 6) ∧ (∀ b, kd b = 11 → fldR (f9 b) 7 = fldR (f b) 7) ∧ (∀ b, kd b = 11 → fldR (f9 b) 9 = fldR (f b) 9) ∧ (∀ b, kd b = 11 → fldR (f9 b) 10 = fldR (f b) 10) ∧ (∀ b, kd b = 11 → fldR (f9 b) 16 = fldR (f b) 16) ∧ (∀ (w1 z1 : Int32), fldI (f o0) 1 = some w1 → fldI (f9 o0) 1 = some z1 → z1.toInt = 0) ∧ (∀ d9, fldR (f9 o0) 3 = some d9 → trel kd 7 508 510 515 4 f9 d9) ∧ (urel kd 5 3 6 7 f9 o0)) := by
  obtain ⟨dC, dI⟩ := D
  refine Met.ofW (cc := cX11_ages) (maxL := 4) (ret := (some .int)) (by decide) rfl ?_
  intro p e s m args below meth c s₁ B hml hv
  obtain ⟨rfl, hP, hK, hD0, hN, hZ⟩ := hv
  have hx := B.exec
  have hb := B.bytes
  have hr := B.returns
  have hU : ∀ w ∈ wsU, w.before _ s = true := fun w h => atoms_spec (ws := wU yX11_ages cX11_ages 4 (some .int)) B.pre w (List.mem_cons_of_mem _ h)
  have hown : s.vm.findClass RX11 = some m.cls := findClass_of_methodNamed B.named
  have hlocks := B.notSynchronized
  have hD := pl_in hD0
  have hS : va_S (fun q => q ∈ L) s.heap s.heap [] := va_S.rf
  have hl := lv_entry ([.ref o0]) (n := 4) (Nat.le_of_ble_eq_true rfl)
  rw [lg_entry_eq]
  generalize (lg_sl ([.ref o0]) ++ List.replicate (4 - (lg_sl ([.ref o0])).length) Slot.unset).toArray = ls at hl ⊢
  have hl : lv_has ls 4 [(0, .ref o0)] := hl
  have hfr0 : ∀ b, kd b ≠ 11 → kd b ≠ 507 → kd b ≠ 516 → kd b ≠ 540 → f b = f b := fun _ _ _ _ _ => rfl
  have hfr11_8 : ∀ b, kd b = 11 → fldI (f b) 8 = fldI (f b) 8 := fun _ _ => rfl
  have hrr11_2 : ∀ b, kd b = 11 → fldR (f b) 2 = fldR (f b) 2 := fun _ _ => rfl
  have hrr11_3 : ∀ b, kd b = 11 → fldR (f b) 3 = fldR (f b) 3 := fun _ _ => rfl
  have hrr11_5 : ∀ b, kd b = 11 → fldR (f b) 5 = fldR (f b) 5 := fun _ _ => rfl
  have hrr11_6 : ∀ b, kd b = 11 → fldR (f b) 6 = fldR (f b) 6 := fun _ _ => rfl
  have hrr11_7 : ∀ b, kd b = 11 → fldR (f b) 7 = fldR (f b) 7 := fun _ _ => rfl
  have hrr11_9 : ∀ b, kd b = 11 → fldR (f b) 9 = fldR (f b) 9 := fun _ _ => rfl
  have hrr11_10 : ∀ b, kd b = 11 → fldR (f b) 10 = fldR (f b) 10 := fun _ _ => rfl
  have hrr11_16 : ∀ b, kd b = 11 → fldR (f b) 16 = fldR (f b) 16 := fun _ _ => rfl
  obtain ⟨a_2, v_3, a_4, a_5, a_6, a_7, a_8, a_9, v_10, a_11, a_12, a_13, v_14, v_15, a_16, v_17, a_18, a_19, v_20, hfo_1, ⟨ma_2, ka_2⟩, bv_3, ⟨ma_4, ka_4⟩, ⟨ma_5, ka_5⟩, ⟨ma_6, ka_6⟩, ⟨ma_7, ka_7⟩, ⟨ma_8, ka_8⟩, ⟨ma_9, ka_9⟩, bv_10, ⟨ma_11, ka_11⟩, ⟨ma_12, ka_12⟩, ⟨ma_13, ka_13⟩, bv_14, ⟨ma_16, ka_16⟩, bv_17, ⟨ma_18, ka_18⟩, ⟨ma_19, ka_19⟩⟩ := un_11 (hG _ mo0) ko0
  have bv_15 : ((-2147483648) ≤ v_15.toInt ∧ v_15.toInt ≤ 2147483647) := ⟨i32_lo _, i32_hi _⟩
  have bv_20 : ((-2147483648) ≤ v_20.toInt ∧ v_20.toInt ≤ 2147483647) := ⟨i32_lo _, i32_hi _⟩
  have hT0 := hxtr0 a_5 (by rw [hfo_1]; rfl)
  have hT1 := hxtr1
  obtain ⟨v_22, v_23, a_24, a_25, a_26, v_27, a_28, a_29, a_30, hfo_21, bv_23, ⟨ma_24, ka_24⟩, ⟨ma_25, ka_25⟩, ⟨ma_26, ka_26⟩, ⟨ma_28, ka_28⟩, ⟨ma_29, ka_29⟩, ⟨ma_30, ka_30⟩⟩ := un_6 (hG _ ma_7) ka_7
  have bv_22 : ((-2147483648) ≤ v_22.toInt ∧ v_22.toInt ≤ 2147483647) := ⟨i32_lo _, i32_hi _⟩
  have bv_27 : ((-2147483648) ≤ v_27.toInt ∧ v_27.toInt ≤ 2147483647) := ⟨i32_lo _, i32_hi _⟩
  obtain ⟨a_32, v_33, a_34, a_35, a_36, a_37, v_38, a_39, a_40, a_41, a_42, a_43, v_44, a_45, a_46, a_47, hfo_31, ⟨ma_32, ka_32⟩, bv_33, ⟨ma_34, ka_34⟩, ⟨ma_35, ka_35⟩, ⟨ma_36, ka_36⟩, ⟨ma_37, ka_37⟩, bv_38, ⟨ma_39, ka_39⟩, ⟨ma_40, ka_40⟩, ⟨ma_41, ka_41⟩, ⟨ma_42, ka_42⟩, ⟨ma_43, ka_43⟩, bv_44, ⟨ma_45, ka_45⟩, ⟨ma_46, ka_46⟩, ⟨ma_47, ka_47⟩⟩ := un_7 (hG _ ma_5) ka_5
  have hquu := hT1
  obtain ⟨uus, uut, uuu, uuc, ⟨-, -, -⟩, ⟨uu1, uu2⟩, ⟨uu3, uu4⟩, uu5⟩ := hquu
  rw [hfo_1] at uu1 uu2
  obtain rfl := Option.some.inj uu1
  obtain rfl := Option.some.inj uu2
  rw [hfo_21] at uu3
  obtain rfl := Option.some.inj uu3
  rw [hfo_31] at uu4
  obtain rfl := Option.some.inj uu4
  refine lv_aload_n hx hb dX11_ages_0 rfl (lv_at hl 0 rfl) ?_
  refine lv_iconst (v := 0) hx hb dX11_ages_1 (by decide) ?_
  refine tk_putP (D := (dC, dI)) (ci := 11) (v := .int 0) (ty := .int) (C := RX11) (T := TX11) (N := 19) hx hb hU inlX11 tyX11 tyX11_ok nmX11 hown hK hP hD hS mo0 hfo_1 rfl 15 (by decide) (hU _ wd_238) (fun _ h9 => h9) rfl (by decide +kernel) rfl rfl (Nat.le_of_ble_eq_true rfl) dX11_ages_2 (fun H locs hP hD hS => ?_)
  obtain ⟨f_49, ef_49⟩ : ∃ y : Nat → va_E, y = va_up f o0 (.inr (11, [.ref a_2, .int v_3, .ref a_4, .ref a_5, .ref a_6, .ref a_7, .ref a_8, .ref a_9, .int v_10, .ref a_11, .ref a_12, .ref a_13, .int v_14, .int v_15, .ref a_16, .int 0, .ref a_18, .ref a_19, .int v_20])) := ⟨_, rfl⟩
  have hP : va_P (dC, dI) vwCl (va_pl L f_49) H := by rw [ef_49]; exact hP
  have hD : va_D (fun q => q ∈ L) (va_pl L f_49) := by rw [ef_49]; exact hD
  have hG : GI (okc cI cL cZ cR cG cH L kd) kd L f_49 := by rw [ef_49]; exact hG.set o0 (mk_11 ko0 ⟨a_2, v_3, a_4, a_5, a_6, a_7, a_8, a_9, v_10, a_11, a_12, a_13, v_14, v_15, a_16, 0, a_18, a_19, v_20, rfl, ⟨ma_2, ka_2⟩, (by constructor <;> omega), ⟨ma_4, ka_4⟩, ⟨ma_5, ka_5⟩, ⟨ma_6, ka_6⟩, ⟨ma_7, ka_7⟩, ⟨ma_8, ka_8⟩, ⟨ma_9, ka_9⟩, (by constructor <;> omega), ⟨ma_11, ka_11⟩, ⟨ma_12, ka_12⟩, ⟨ma_13, ka_13⟩, (by constructor <;> omega), ⟨ma_16, ka_16⟩, (by decide), ⟨ma_18, ka_18⟩, ⟨ma_19, ka_19⟩⟩)
  have hfo_50 : f_49 a_7 = .inr (6, [.int v_22, .int v_23, .ref a_24, .ref a_25, .ref a_26, .int v_27, .ref a_28, .ref a_29, .ref a_30]) := by rw [ef_49, up_ne (kd_ne ko0 ka_7 (by decide))]; exact hfo_21
  have hfo_51 : f_49 a_5 = .inr (7, [.ref a_32, .int v_33, .ref a_34, .ref a_35, .ref a_36, .ref a_37, .int v_38, .ref a_39, .ref a_40, .ref a_41, .ref a_42, .ref a_43, .int v_44, .ref a_45, .ref a_46, .ref a_47]) := by rw [ef_49, up_ne (kd_ne ko0 ka_5 (by decide))]; exact hfo_31
  have hfr0 : ∀ b, kd b ≠ 11 → kd b ≠ 507 → kd b ≠ 516 → kd b ≠ 540 → f_49 b = f b := fun b q11 q507 q516 q540 => (congrFun ef_49 b).trans ((up_ne (fun e9 => q11 (by rw [e9]; exact ko0))).trans (hfr0 b q11 q507 q516 q540))
  have hfr11_8 : ∀ b, kd b = 11 → fldI (f_49 b) 8 = fldI (f b) 8 := fun b kb => ((congrArg (fun x => fldI x 8) (congrFun ef_49 b)).trans (fk_up (by rw [hfo_1]; rfl) b)).trans (hfr11_8 b kb)
  have hrr11_2 : ∀ b, kd b = 11 → fldR (f_49 b) 2 = fldR (f b) 2 := fun b kb => ((congrArg (fun x => fldR x 2) (congrFun ef_49 b)).trans (fr_up (by rw [hfo_1]; rfl) b)).trans (hrr11_2 b kb)
  have hrr11_3 : ∀ b, kd b = 11 → fldR (f_49 b) 3 = fldR (f b) 3 := fun b kb => ((congrArg (fun x => fldR x 3) (congrFun ef_49 b)).trans (fr_up (by rw [hfo_1]; rfl) b)).trans (hrr11_3 b kb)
  have hrr11_5 : ∀ b, kd b = 11 → fldR (f_49 b) 5 = fldR (f b) 5 := fun b kb => ((congrArg (fun x => fldR x 5) (congrFun ef_49 b)).trans (fr_up (by rw [hfo_1]; rfl) b)).trans (hrr11_5 b kb)
  have hrr11_6 : ∀ b, kd b = 11 → fldR (f_49 b) 6 = fldR (f b) 6 := fun b kb => ((congrArg (fun x => fldR x 6) (congrFun ef_49 b)).trans (fr_up (by rw [hfo_1]; rfl) b)).trans (hrr11_6 b kb)
  have hrr11_7 : ∀ b, kd b = 11 → fldR (f_49 b) 7 = fldR (f b) 7 := fun b kb => ((congrArg (fun x => fldR x 7) (congrFun ef_49 b)).trans (fr_up (by rw [hfo_1]; rfl) b)).trans (hrr11_7 b kb)
  have hrr11_9 : ∀ b, kd b = 11 → fldR (f_49 b) 9 = fldR (f b) 9 := fun b kb => ((congrArg (fun x => fldR x 9) (congrFun ef_49 b)).trans (fr_up (by rw [hfo_1]; rfl) b)).trans (hrr11_9 b kb)
  have hrr11_10 : ∀ b, kd b = 11 → fldR (f_49 b) 10 = fldR (f b) 10 := fun b kb => ((congrArg (fun x => fldR x 10) (congrFun ef_49 b)).trans (fr_up (by rw [hfo_1]; rfl) b)).trans (hrr11_10 b kb)
  have hrr11_16 : ∀ b, kd b = 11 → fldR (f_49 b) 16 = fldR (f b) 16 := fun b kb => ((congrArg (fun x => fldR x 16) (congrFun ef_49 b)).trans (fr_up (by rw [hfo_1]; rfl) b)).trans (hrr11_16 b kb)
  have hT0 : trel kd 7 508 510 515 4 f_49 a_5 := by rw [ef_49]; exact hT0.up ko0 (by decide) (by decide) (by decide) (by decide) (by decide)
  have hT1 : urel kd 5 3 6 7 f_49 o0 := by rw [ef_49]; exact hT1.keep (fun b _ => fr_up (by rw [hfo_1]; rfl) b) (fun b _ => fr_up (by rw [hfo_1]; rfl) b) (fun b q => congrArg (fun x => fldI x 0) (up_ne (kd_ne ko0 q (by decide)))) (fun b q => congrArg (fun x => fldI x 12) (up_ne (kd_ne ko0 q (by decide))))
  have hfo_52 : f_49 o0 = .inr (11, [.ref a_2, .int v_3, .ref a_4, .ref a_5, .ref a_6, .ref a_7, .ref a_8, .ref a_9, .int v_10, .ref a_11, .ref a_12, .ref a_13, .int v_14, .int v_15, .ref a_16, .int 0, .ref a_18, .ref a_19, .int v_20]) := by rw [ef_49]; exact up_self
  refine lv_aload_n hx hb dX11_ages_5 rfl (lv_at hl 0 rfl) ?_
  refine tk_ViP (As := []) (rest := []) (n := 0) hx hb hml hown hU hN hZ (s_X11_takeWord_k11 l (dC, dI) cI cL cZ cR cG cH Z kd L f_49 hG o0 mo0 ko0 (fun d9 h9 => by rw [hfo_52] at h9; obtain rfl := Option.some.inj h9; exact hT0)) wd_709 wd_710 wd_711 wd_2 wd_712 (by decide +kernel) ⟨Nat.le_of_ble_eq_true rfl, Nat.le_of_ble_eq_true rfl⟩ hK hP hD hS mo0 hfo_52 11 rfl rfl rfl hl.1 rfl (Nat.le_of_ble_eq_true rfl) dX11_ages_6 ⟨Nat.le_of_ble_eq_true rfl, Nat.le_of_ble_eq_true rfl⟩ (fun x_53 f_54 H locs hw hP hD hS => ?_)
  obtain ⟨hG, bx_53, hkc_55, hfc_56, hrc_57, hrc_58, hrc_59, hrc_60, hrc_61, hrc_62, hrc_63, hrc_64, hpost_65, hxp_66, hTc_67⟩ := hw
  have hfo_69 : f_54 a_7 = .inr (6, [.int v_22, .int v_23, .ref a_24, .ref a_25, .ref a_26, .int v_27, .ref a_28, .ref a_29, .ref a_30]) := by rw [hkc_55 a_7 (by rw [ka_7]; decide) (by rw [ka_7]; decide)]; exact hfo_50
  have hfo_70 : f_54 a_5 = .inr (7, [.ref a_32, .int v_33, .ref a_34, .ref a_35, .ref a_36, .ref a_37, .int v_38, .ref a_39, .ref a_40, .ref a_41, .ref a_42, .ref a_43, .int v_44, .ref a_45, .ref a_46, .ref a_47]) := by rw [hkc_55 a_5 (by rw [ka_5]; decide) (by rw [ka_5]; decide)]; exact hfo_51
  have hfr0 : ∀ b, kd b ≠ 11 → kd b ≠ 507 → kd b ≠ 516 → kd b ≠ 540 → f_54 b = f b := fun b q11 q507 q516 q540 => (hkc_55 b q11 q540).trans (hfr0 b q11 q507 q516 q540)
  have hfr11_8 : ∀ b, kd b = 11 → fldI (f_54 b) 8 = fldI (f b) 8 := fun b kb => (hfc_56 b kb).trans (hfr11_8 b kb)
  have hrr11_2 : ∀ b, kd b = 11 → fldR (f_54 b) 2 = fldR (f b) 2 := fun b kb => (hrc_57 b kb).trans (hrr11_2 b kb)
  have hrr11_3 : ∀ b, kd b = 11 → fldR (f_54 b) 3 = fldR (f b) 3 := fun b kb => (hrc_58 b kb).trans (hrr11_3 b kb)
  have hrr11_5 : ∀ b, kd b = 11 → fldR (f_54 b) 5 = fldR (f b) 5 := fun b kb => (hrc_59 b kb).trans (hrr11_5 b kb)
  have hrr11_6 : ∀ b, kd b = 11 → fldR (f_54 b) 6 = fldR (f b) 6 := fun b kb => (hrc_60 b kb).trans (hrr11_6 b kb)
  have hrr11_7 : ∀ b, kd b = 11 → fldR (f_54 b) 7 = fldR (f b) 7 := fun b kb => (hrc_61 b kb).trans (hrr11_7 b kb)
  have hrr11_9 : ∀ b, kd b = 11 → fldR (f_54 b) 9 = fldR (f b) 9 := fun b kb => (hrc_62 b kb).trans (hrr11_9 b kb)
  have hrr11_10 : ∀ b, kd b = 11 → fldR (f_54 b) 10 = fldR (f b) 10 := fun b kb => (hrc_63 b kb).trans (hrr11_10 b kb)
  have hrr11_16 : ∀ b, kd b = 11 → fldR (f_54 b) 16 = fldR (f b) 16 := fun b kb => (hrc_64 b kb).trans (hrr11_16 b kb)
  have hT0 : trel kd 7 508 510 515 4 f_54 a_5 := hT0.keep (fun b q => hkc_55 b (by rw [q]; decide) (by rw [q]; decide)) (fun b q => hkc_55 b (by rw [q]; decide) (by rw [q]; decide)) (fun b q => hkc_55 b (by rw [q]; decide) (by rw [q]; decide)) (fun b q => hkc_55 b (by rw [q]; decide) (by rw [q]; decide)) (fun b q => congrArg (fun x => fldI x 1) (hkc_55 b (by rw [q]; decide) (by rw [q]; decide)))
  have hT1 : urel kd 5 3 6 7 f_54 o0 := hT1.keep (fun b q => hrc_59 b q) (fun b q => hrc_58 b q) (fun b q => congrArg (fun x => fldI x 0) (hkc_55 b (by rw [q]; decide) (by rw [q]; decide))) (fun b q => congrArg (fun x => fldI x 12) (hkc_55 b (by rw [q]; decide) (by rw [q]; decide)))
  obtain ⟨a_72, v_73, a_74, a_75, a_76, a_77, a_78, a_79, v_80, a_81, a_82, a_83, v_84, v_85, a_86, v_87, a_88, a_89, v_90, hfo_71, ⟨ma_72, ka_72⟩, bv_73, ⟨ma_74, ka_74⟩, ⟨ma_75, ka_75⟩, ⟨ma_76, ka_76⟩, ⟨ma_77, ka_77⟩, ⟨ma_78, ka_78⟩, ⟨ma_79, ka_79⟩, bv_80, ⟨ma_81, ka_81⟩, ⟨ma_82, ka_82⟩, ⟨ma_83, ka_83⟩, bv_84, ⟨ma_86, ka_86⟩, bv_87, ⟨ma_88, ka_88⟩, ⟨ma_89, ka_89⟩⟩ := un_11 (hG _ mo0) ko0
  have bv_85 : ((-2147483648) ≤ v_85.toInt ∧ v_85.toInt ≤ 2147483647) := ⟨i32_lo _, i32_hi _⟩
  have bv_90 : ((-2147483648) ≤ v_90.toInt ∧ v_90.toInt ≤ 2147483647) := ⟨i32_lo _, i32_hi _⟩
  obtain rfl : a_4 = a_74 := by have hk9 := hrr11_2 o0 ko0; rw [hfo_71, hfo_1] at hk9; exact (Option.some.inj hk9).symm
  obtain rfl : a_5 = a_75 := by have hk9 := hrr11_3 o0 ko0; rw [hfo_71, hfo_1] at hk9; exact (Option.some.inj hk9).symm
  obtain rfl : a_7 = a_77 := by have hk9 := hrr11_5 o0 ko0; rw [hfo_71, hfo_1] at hk9; exact (Option.some.inj hk9).symm
  obtain rfl : a_8 = a_78 := by have hk9 := hrr11_6 o0 ko0; rw [hfo_71, hfo_1] at hk9; exact (Option.some.inj hk9).symm
  obtain rfl : a_9 = a_79 := by have hk9 := hrr11_7 o0 ko0; rw [hfo_71, hfo_1] at hk9; exact (Option.some.inj hk9).symm
  obtain rfl : a_11 = a_81 := by have hk9 := hrr11_9 o0 ko0; rw [hfo_71, hfo_1] at hk9; exact (Option.some.inj hk9).symm
  obtain rfl : a_12 = a_82 := by have hk9 := hrr11_10 o0 ko0; rw [hfo_71, hfo_1] at hk9; exact (Option.some.inj hk9).symm
  obtain rfl : a_18 = a_88 := by have hk9 := hrr11_16 o0 ko0; rw [hfo_71, hfo_1] at hk9; exact (Option.some.inj hk9).symm
  obtain rfl : v_10 = v_80 := by have hk9 := hfc_56 o0 ko0; rw [hfo_71, hfo_52] at hk9; exact (Option.some.inj hk9).symm
  have hqhpost_65 := hpost_65 v_3 v_73 v_14 v_84 (by rw [hfo_52]; rfl) (by rw [hfo_52]; rfl) (by rw [hfo_71]; rfl) (by rw [hfo_71]; rfl)
  have hT_91 := hTc_67 a_5 (by rw [hfo_71]; rfl)
  obtain ⟨g_93, hfo_92, hbg_93⟩ := un_540 (hG _ ma_18) ka_18
  have htwx_53 := hxp_66 a_18 g_93 a_5 v_33 (by rw [hfo_71]; rfl) hfo_92 (by rw [hfo_71]; rfl) (by rw [hfo_70]; rfl)
  refine lv_istore_n (lv' := [(1, .int x_53), (0, .ref o0)]) hx hb dX11_ages_9 rfl hl (by decide) rfl (fun ls hl => ?_)
  refine lv_iload_n hx hb dX11_ages_10 rfl (lv_at hl 0 rfl) ?_
  refine lv_iconst (v := (-1)) hx hb dX11_ages_11 (by decide) ?_
  refine lv_icmp_ne (tgt := 17) hx hb dX11_ages_12 (by decide) (fun c_94 => ?_) (fun c_94 => ?_)
  · skip
    rw [← Int32.toInt_inj, ti_m1] at c_94
    refine lv_aload_n hx hb dX11_ages_17 rfl (lv_at hl 1 rfl) ?_
    refine tk_getP (D := (dC, dI)) (ci := 11) (v := .ref a_18) (C := RX11) (T := TX11) (N := 19) hx hb hU inlX11 hown hK hP mo0 hfo_71 rfl 16 (by decide) (hU _ wd_42) (fun _ h9 => h9) rfl dX11_ages_18 ?_
    refine lv_iconst (v := 0) hx hb dX11_ages_21 (by decide) ?_
    refine lv_aload_n hx hb dX11_ages_22 rfl (lv_at hl 1 rfl) ?_
    refine tk_getP (D := (dC, dI)) (ci := 11) (v := .ref a_86) (C := RX11) (T := TX11) (N := 19) hx hb hU inlX11 hown hK hP mo0 hfo_71 rfl 14 (by decide) (hU _ wd_41) (fun _ h9 => h9) rfl dX11_ages_23 ?_
    refine lv_iconst (v := 0) hx hb dX11_ages_26 (by decide) ?_
    refine lv_iload_n hx hb dX11_ages_27 rfl (lv_at hl 0 rfl) ?_
    obtain ⟨g_96, hfo_95, hbg_96⟩ := un_507 (hG _ ma_86) ka_86
    refine tk_copyP hx hb (by rw [hml]; exact hl.1.symm) hown (hU _ wd_1101) (hU _ wd_253) (hU _ wd_254) (hU _ wd_255) hK hP hD hS 0 ma_18 ma_86 hfo_92 hfo_95 rfl (by decide) (by decide) (by rw [Int32.lt_iff_toInt_lt, ti_0]; omega) (cp_ok (by rw [ti_0]; omega) (by omega) (by rw [ti_0]; omega)) (cp_ok (by rw [ti_0]; omega) (by omega) (by rw [ti_0]; omega)) (Nat.le_of_ble_eq_true rfl) (Nat.le_of_ble_eq_true rfl) dX11_ages_28 (fun H locs hP hD hS => ?_)
    obtain ⟨g_97, eqg_97⟩ : ∃ y : Nat → Int32, y = va_cpy g_93 g_96 (Int32.toNatClampNeg 0) (Int32.toNatClampNeg 0) (Int32.toNatClampNeg x_53) := ⟨_, rfl⟩
    rw [← eqg_97] at hP hD
    have hbg_97 : ∀ j, 0 ≤ (g_97 j).toInt ∧ (g_97 j).toInt ≤ 8 := by rw [eqg_97]; exact okI_cp2 (fun j h1 h2 => by have hcn := cl_I (i := x_53) (by omega); have hc0 : Int32.toNatClampNeg 0 = 0 := (by decide); have h8 := htwx_53 j (by omega); constructor <;> omega) hbg_96
    obtain ⟨f_99, ef_99⟩ : ∃ y : Nat → va_E, y = va_up f_54 a_86 (.inl (cI, 8, .inl g_97)) := ⟨_, rfl⟩
    have hP : va_P (dC, dI) vwCl (va_pl L f_99) H := by rw [ef_99]; exact hP
    have hD : va_D (fun q => q ∈ L) (va_pl L f_99) := by rw [ef_99]; exact hD
    have hG : GI (okc cI cL cZ cR cG cH L kd) kd L f_99 := by rw [ef_99]; exact hG.set a_86 (mk_507 ka_86 ⟨_, rfl, hbg_97⟩)
    have hfo_100 : f_99 a_7 = .inr (6, [.int v_22, .int v_23, .ref a_24, .ref a_25, .ref a_26, .int v_27, .ref a_28, .ref a_29, .ref a_30]) := by rw [ef_99, up_ne (kd_ne ka_86 ka_7 (by decide))]; exact hfo_69
    have hfo_101 : f_99 a_5 = .inr (7, [.ref a_32, .int v_33, .ref a_34, .ref a_35, .ref a_36, .ref a_37, .int v_38, .ref a_39, .ref a_40, .ref a_41, .ref a_42, .ref a_43, .int v_44, .ref a_45, .ref a_46, .ref a_47]) := by rw [ef_99, up_ne (kd_ne ka_86 ka_5 (by decide))]; exact hfo_70
    have hfo_102 : f_99 o0 = .inr (11, [.ref a_72, .int v_73, .ref a_4, .ref a_5, .ref a_76, .ref a_7, .ref a_8, .ref a_9, .int v_10, .ref a_11, .ref a_12, .ref a_83, .int v_84, .int v_85, .ref a_86, .int v_87, .ref a_18, .ref a_89, .int v_90]) := by rw [ef_99, up_ne (kd_ne ka_86 ko0 (by decide))]; exact hfo_71
    have hfo_103 : f_99 a_18 = .inl (cI, 16, .inl g_93) := by rw [ef_99, up_ne (kd_ne ka_86 ka_18 (by decide))]; exact hfo_92
    have hfr0 : ∀ b, kd b ≠ 11 → kd b ≠ 507 → kd b ≠ 516 → kd b ≠ 540 → f_99 b = f b := fun b q11 q507 q516 q540 => (congrFun ef_99 b).trans ((up_ne (fun e9 => q507 (by rw [e9]; exact ka_86))).trans (hfr0 b q11 q507 q516 q540))
    have hfr11_8 : ∀ b, kd b = 11 → fldI (f_99 b) 8 = fldI (f b) 8 := fun b kb => (congrArg (fun x => fldI x 8) ((congrFun ef_99 b).trans (up_ne (kd_ne ka_86 kb (by decide))))).trans (hfr11_8 b kb)
    have hrr11_2 : ∀ b, kd b = 11 → fldR (f_99 b) 2 = fldR (f b) 2 := fun b kb => (congrArg (fun x => fldR x 2) ((congrFun ef_99 b).trans (up_ne (kd_ne ka_86 kb (by decide))))).trans (hrr11_2 b kb)
    have hrr11_3 : ∀ b, kd b = 11 → fldR (f_99 b) 3 = fldR (f b) 3 := fun b kb => (congrArg (fun x => fldR x 3) ((congrFun ef_99 b).trans (up_ne (kd_ne ka_86 kb (by decide))))).trans (hrr11_3 b kb)
    have hrr11_5 : ∀ b, kd b = 11 → fldR (f_99 b) 5 = fldR (f b) 5 := fun b kb => (congrArg (fun x => fldR x 5) ((congrFun ef_99 b).trans (up_ne (kd_ne ka_86 kb (by decide))))).trans (hrr11_5 b kb)
    have hrr11_6 : ∀ b, kd b = 11 → fldR (f_99 b) 6 = fldR (f b) 6 := fun b kb => (congrArg (fun x => fldR x 6) ((congrFun ef_99 b).trans (up_ne (kd_ne ka_86 kb (by decide))))).trans (hrr11_6 b kb)
    have hrr11_7 : ∀ b, kd b = 11 → fldR (f_99 b) 7 = fldR (f b) 7 := fun b kb => (congrArg (fun x => fldR x 7) ((congrFun ef_99 b).trans (up_ne (kd_ne ka_86 kb (by decide))))).trans (hrr11_7 b kb)
    have hrr11_9 : ∀ b, kd b = 11 → fldR (f_99 b) 9 = fldR (f b) 9 := fun b kb => (congrArg (fun x => fldR x 9) ((congrFun ef_99 b).trans (up_ne (kd_ne ka_86 kb (by decide))))).trans (hrr11_9 b kb)
    have hrr11_10 : ∀ b, kd b = 11 → fldR (f_99 b) 10 = fldR (f b) 10 := fun b kb => (congrArg (fun x => fldR x 10) ((congrFun ef_99 b).trans (up_ne (kd_ne ka_86 kb (by decide))))).trans (hrr11_10 b kb)
    have hrr11_16 : ∀ b, kd b = 11 → fldR (f_99 b) 16 = fldR (f b) 16 := fun b kb => (congrArg (fun x => fldR x 16) ((congrFun ef_99 b).trans (up_ne (kd_ne ka_86 kb (by decide))))).trans (hrr11_16 b kb)
    have hT_91 : trel kd 7 508 510 515 4 f_99 a_5 := by rw [ef_99]; exact hT_91.up ka_86 (by decide) (by decide) (by decide) (by decide) (by decide)
    have hT1 : urel kd 5 3 6 7 f_99 o0 := by rw [ef_99]; exact hT1.keep (fun b q => congrArg (fun x => fldR x 5) (up_ne (kd_ne ka_86 q (by decide)))) (fun b q => congrArg (fun x => fldR x 3) (up_ne (kd_ne ka_86 q (by decide)))) (fun b q => congrArg (fun x => fldI x 0) (up_ne (kd_ne ka_86 q (by decide)))) (fun b q => congrArg (fun x => fldI x 12) (up_ne (kd_ne ka_86 q (by decide))))
    have hfo_104 : f_99 a_86 = .inl (cI, 8, .inl g_97) := by rw [ef_99]; exact up_self
    have hag0 : ∀ j : Nat, (j : Int) < x_53.toInt → 1 ≤ (g_97 j).toInt ∧ (g_97 j).toInt ≤ v_33.toInt := by intro j hj; have hcn := cl_I (i := x_53) (by omega); rw [cp26 (n := Int32.toNatClampNeg x_53) eqg_97 (by decide) (by decide) rfl (by omega)]; have h8 := htwx_53 j (by omega); constructor <;> omega
    refine lv_iconst (v := 0) hx hb dX11_ages_31 (by decide) ?_
    refine lv_istore_n (lv' := [(2, .int 0), (1, .int x_53), (0, .ref o0)]) hx hb dX11_ages_32 rfl hl (by decide) rfl (fun ls hl => ?_)
    have hloop_133 : ∀ (n : Nat), ∀ (y_134 : Int32), (0 ≤ y_134.toInt ∧ y_134.toInt ≤ 8) → ∀ (y_135 : Int32), (0 ≤ y_135.toInt ∧ y_135.toInt ≤ 8) → ∀ (f_137 : Nat → va_E), GI (okc cI cL cZ cR cG cH L kd) kd L f_137 → ∀ (H : Heap) (locs : List Loc), va_P (dC, dI) vwCl (va_pl L f_137) H → va_S (fun q => q ∈ L) s.heap H locs → va_D (fun q => q ∈ L) (va_pl L f_137) → (∀ b, kd b ≠ 11 → kd b ≠ 507 → kd b ≠ 516 → kd b ≠ 540 → f_137 b = f b) → (∀ b, kd b = 11 → fldI (f_137 b) 8 = fldI (f b) 8) → (∀ b, kd b = 11 → fldR (f_137 b) 2 = fldR (f b) 2) → (∀ b, kd b = 11 → fldR (f_137 b) 3 = fldR (f b) 3) → (∀ b, kd b = 11 → fldR (f_137 b) 5 = fldR (f b) 5) → (∀ b, kd b = 11 → fldR (f_137 b) 6 = fldR (f b) 6) → (∀ b, kd b = 11 → fldR (f_137 b) 7 = fldR (f b) 7) → (∀ b, kd b = 11 → fldR (f_137 b) 9 = fldR (f b) 9) → (∀ b, kd b = 11 → fldR (f_137 b) 10 = fldR (f b) 10) → (∀ b, kd b = 11 → fldR (f_137 b) 16 = fldR (f b) 16) → (f_137 a_7 = .inr (6, [.int v_22, .int v_23, .ref a_24, .ref a_25, .ref a_26, .int v_27, .ref a_28, .ref a_29, .ref a_30])) → (f_137 a_5 = .inr (7, [.ref a_32, .int v_33, .ref a_34, .ref a_35, .ref a_36, .ref a_37, .int v_38, .ref a_39, .ref a_40, .ref a_41, .ref a_42, .ref a_43, .int v_44, .ref a_45, .ref a_46, .ref a_47])) → (f_137 o0 = .inr (11, [.ref a_72, .int v_73, .ref a_4, .ref a_5, .ref a_76, .ref a_7, .ref a_8, .ref a_9, .int v_10, .ref a_11, .ref a_12, .ref a_83, .int v_84, .int v_85, .ref a_86, .int v_87, .ref a_18, .ref a_89, .int v_90])) → (f_137 a_18 = .inl (cI, 16, .inl g_93)) → trel kd 7 508 510 515 4 f_137 a_5 → urel kd 5 3 6 7 f_137 o0 → (∀ g9, f_137 a_86 = .inl (cI, 8, .inl g9) → ∀ j : Nat, (j : Int) < y_135.toInt → 1 ≤ (g9 j).toInt ∧ (g9 j).toInt ≤ v_33.toInt) → 8 - y_134.toInt < (n : Int) → ∀ (ls : Array Slot), lv_has ls 4 [(2, .int y_134), (1, .int y_135), (0, .ref o0)] → W p l e (headSpec (wU yX11_ages cX11_ages 4 (some .int)) { frames := 3, cells := 0, slots := 0, locals := 78 }).room s m [.ref o0].toArray below meth c H locs 0 0 (MQ below (va_Qi (fun (r : Int32) (f9 : Nat → va_E) => GI (okc cI cL cZ cR cG cH L kd) kd L f9 ∧ ((-2147483648) ≤ r.toInt ∧ r.toInt ≤ 2147483647) ∧ (∀ b, kd b ≠ 11 → kd b ≠ 507 → kd b ≠ 516 → kd b ≠ 540 → f9 b = f b) ∧ (∀ b, kd b = 11 → fldI (f9 b) 8 = fldI (f b) 8) ∧ (∀ b, kd b = 11 → fldR (f9 b) 2 = fldR (f b) 2) ∧ (∀ b, kd b = 11 → fldR (f9 b) 3 = fldR (f b) 3) ∧ (∀ b, kd b = 11 → fldR (f9 b) 5 = fldR (f b) 5) ∧ (∀ b, kd b = 11 → fldR (f9 b) 6 = fldR (f b) 6) ∧ (∀ b, kd b = 11 → fldR (f9 b) 7 = fldR (f b) 7) ∧ (∀ b, kd b = 11 → fldR (f9 b) 9 = fldR (f b) 9) ∧ (∀ b, kd b = 11 → fldR (f9 b) 10 = fldR (f b) 10) ∧ (∀ b, kd b = 11 → fldR (f9 b) 16 = fldR (f b) 16) ∧ (∀ (w1 z1 : Int32), fldI (f o0) 1 = some w1 → fldI (f9 o0) 1 = some z1 → z1.toInt = 0) ∧ (∀ d9, fldR (f9 o0) 3 = some d9 → trel kd 7 508 510 515 4 f9 d9) ∧ (urel kd 5 3 6 7 f9 o0)) (qP (dC, dI) cI cL cZ cR cG cH L) (fun q => q ∈ L)) [.ref o0].toArray s 0 0 (fun q => q ∈ L)) (F0 m 33 ls []) := by
      intro n
      induction n with
      | zero => intro y_134 by_134 y_135 by_135 f_137 hG H locs hP hS hD hfr0 hfr11_8 hrr11_2 hrr11_3 hrr11_5 hrr11_6 hrr11_7 hrr11_9 hrr11_10 hrr11_16 hfo_138 hfo_139 hfo_140 hfo_141 hT_91 hT1 hxg hmuhloop_133 ls hl; exfalso; omega
      | succ n ih_hloop_133 =>
        intro y_134 by_134 y_135 by_135 f_137 hG H locs hP hS hD hfr0 hfr11_8 hrr11_2 hrr11_3 hrr11_5 hrr11_6 hrr11_7 hrr11_9 hrr11_10 hrr11_16 hfo_138 hfo_139 hfo_140 hfo_141 hT_91 hT1 hxg hmuhloop_133 ls hl
        refine lv_iload_n hx hb dX11_ages_33 rfl (lv_at hl 0 rfl) ?_
        refine lv_aload_n hx hb dX11_ages_34 rfl (lv_at hl 2 rfl) ?_
        refine tk_getP (D := (dC, dI)) (ci := 11) (v := .ref a_5) (C := RX11) (T := TX11) (N := 19) hx hb hU inlX11 hown hK hP mo0 hfo_140 rfl 3 (by decide) (hU _ wd_19) (fun _ h9 => h9) rfl dX11_ages_35 ?_
        refine tk_getP (D := (dC, dI)) (ci := 7) (v := .int v_44) (C := RX7) (T := TX7) (N := 16) hx hb hU inlX7 hown hK hP ma_5 hfo_139 rfl 12 (by decide) (hU _ wd_235) (fun _ h9 => h9) rfl dX11_ages_38 ?_
        refine lv_icmp_ge (tgt := 89) hx hb dX11_ages_41 (by decide) (fun c_142 => ?_) (fun c_142 => ?_)
        · skip
          rw [Int32.le_iff_toInt_le] at c_142
          refine lv_aload_n hx hb dX11_ages_89 rfl (lv_at hl 2 rfl) ?_
          refine lv_iload_n hx hb dX11_ages_90 rfl (lv_at hl 1 rfl) ?_
          refine tk_putP (D := (dC, dI)) (ci := 11) (v := .int y_135) (ty := .int) (C := RX11) (T := TX11) (N := 19) hx hb hU inlX11 tyX11 tyX11_ok nmX11 hown hK hP hD hS mo0 hfo_140 rfl 15 (by decide) (hU _ wd_238) (fun _ h9 => h9) rfl (by decide +kernel) rfl rfl (Nat.le_of_ble_eq_true rfl) dX11_ages_91 (fun H locs hP hD hS => ?_)
          obtain ⟨f_144, ef_144⟩ : ∃ y : Nat → va_E, y = va_up f_137 o0 (.inr (11, [.ref a_72, .int v_73, .ref a_4, .ref a_5, .ref a_76, .ref a_7, .ref a_8, .ref a_9, .int v_10, .ref a_11, .ref a_12, .ref a_83, .int v_84, .int v_85, .ref a_86, .int y_135, .ref a_18, .ref a_89, .int v_90])) := ⟨_, rfl⟩
          have hP : va_P (dC, dI) vwCl (va_pl L f_144) H := by rw [ef_144]; exact hP
          have hD : va_D (fun q => q ∈ L) (va_pl L f_144) := by rw [ef_144]; exact hD
          have hG : GI (okc cI cL cZ cR cG cH L kd) kd L f_144 := by rw [ef_144]; exact hG.set o0 (mk_11 ko0 ⟨a_72, v_73, a_4, a_5, a_76, a_7, a_8, a_9, v_10, a_11, a_12, a_83, v_84, v_85, a_86, y_135, a_18, a_89, v_90, rfl, ⟨ma_72, ka_72⟩, (by constructor <;> omega), ⟨ma_4, ka_4⟩, ⟨ma_5, ka_5⟩, ⟨ma_76, ka_76⟩, ⟨ma_7, ka_7⟩, ⟨ma_8, ka_8⟩, ⟨ma_9, ka_9⟩, (by constructor <;> omega), ⟨ma_11, ka_11⟩, ⟨ma_12, ka_12⟩, ⟨ma_83, ka_83⟩, (by constructor <;> omega), ⟨ma_86, ka_86⟩, (by constructor <;> omega), ⟨ma_18, ka_18⟩, ⟨ma_89, ka_89⟩⟩)
          have hfo_145 : f_144 a_7 = .inr (6, [.int v_22, .int v_23, .ref a_24, .ref a_25, .ref a_26, .int v_27, .ref a_28, .ref a_29, .ref a_30]) := by rw [ef_144, up_ne (kd_ne ko0 ka_7 (by decide))]; exact hfo_138
          have hfo_146 : f_144 a_5 = .inr (7, [.ref a_32, .int v_33, .ref a_34, .ref a_35, .ref a_36, .ref a_37, .int v_38, .ref a_39, .ref a_40, .ref a_41, .ref a_42, .ref a_43, .int v_44, .ref a_45, .ref a_46, .ref a_47]) := by rw [ef_144, up_ne (kd_ne ko0 ka_5 (by decide))]; exact hfo_139
          have hfo_147 : f_144 a_18 = .inl (cI, 16, .inl g_93) := by rw [ef_144, up_ne (kd_ne ko0 ka_18 (by decide))]; exact hfo_141
          have hfr0 : ∀ b, kd b ≠ 11 → kd b ≠ 507 → kd b ≠ 516 → kd b ≠ 540 → f_144 b = f b := fun b q11 q507 q516 q540 => (congrFun ef_144 b).trans ((up_ne (fun e9 => q11 (by rw [e9]; exact ko0))).trans (hfr0 b q11 q507 q516 q540))
          have hfr11_8 : ∀ b, kd b = 11 → fldI (f_144 b) 8 = fldI (f b) 8 := fun b kb => ((congrArg (fun x => fldI x 8) (congrFun ef_144 b)).trans (fk_up (by rw [hfo_140]; rfl) b)).trans (hfr11_8 b kb)
          have hrr11_2 : ∀ b, kd b = 11 → fldR (f_144 b) 2 = fldR (f b) 2 := fun b kb => ((congrArg (fun x => fldR x 2) (congrFun ef_144 b)).trans (fr_up (by rw [hfo_140]; rfl) b)).trans (hrr11_2 b kb)
          have hrr11_3 : ∀ b, kd b = 11 → fldR (f_144 b) 3 = fldR (f b) 3 := fun b kb => ((congrArg (fun x => fldR x 3) (congrFun ef_144 b)).trans (fr_up (by rw [hfo_140]; rfl) b)).trans (hrr11_3 b kb)
          have hrr11_5 : ∀ b, kd b = 11 → fldR (f_144 b) 5 = fldR (f b) 5 := fun b kb => ((congrArg (fun x => fldR x 5) (congrFun ef_144 b)).trans (fr_up (by rw [hfo_140]; rfl) b)).trans (hrr11_5 b kb)
          have hrr11_6 : ∀ b, kd b = 11 → fldR (f_144 b) 6 = fldR (f b) 6 := fun b kb => ((congrArg (fun x => fldR x 6) (congrFun ef_144 b)).trans (fr_up (by rw [hfo_140]; rfl) b)).trans (hrr11_6 b kb)
          have hrr11_7 : ∀ b, kd b = 11 → fldR (f_144 b) 7 = fldR (f b) 7 := fun b kb => ((congrArg (fun x => fldR x 7) (congrFun ef_144 b)).trans (fr_up (by rw [hfo_140]; rfl) b)).trans (hrr11_7 b kb)
          have hrr11_9 : ∀ b, kd b = 11 → fldR (f_144 b) 9 = fldR (f b) 9 := fun b kb => ((congrArg (fun x => fldR x 9) (congrFun ef_144 b)).trans (fr_up (by rw [hfo_140]; rfl) b)).trans (hrr11_9 b kb)
          have hrr11_10 : ∀ b, kd b = 11 → fldR (f_144 b) 10 = fldR (f b) 10 := fun b kb => ((congrArg (fun x => fldR x 10) (congrFun ef_144 b)).trans (fr_up (by rw [hfo_140]; rfl) b)).trans (hrr11_10 b kb)
          have hrr11_16 : ∀ b, kd b = 11 → fldR (f_144 b) 16 = fldR (f b) 16 := fun b kb => ((congrArg (fun x => fldR x 16) (congrFun ef_144 b)).trans (fr_up (by rw [hfo_140]; rfl) b)).trans (hrr11_16 b kb)
          have hT_91 : trel kd 7 508 510 515 4 f_144 a_5 := by rw [ef_144]; exact hT_91.up ko0 (by decide) (by decide) (by decide) (by decide) (by decide)
          have hT1 : urel kd 5 3 6 7 f_144 o0 := by rw [ef_144]; exact hT1.keep (fun b _ => fr_up (by rw [hfo_140]; rfl) b) (fun b _ => fr_up (by rw [hfo_140]; rfl) b) (fun b q => congrArg (fun x => fldI x 0) (up_ne (kd_ne ko0 q (by decide)))) (fun b q => congrArg (fun x => fldI x 12) (up_ne (kd_ne ko0 q (by decide))))
          have hfo_148 : f_144 o0 = .inr (11, [.ref a_72, .int v_73, .ref a_4, .ref a_5, .ref a_76, .ref a_7, .ref a_8, .ref a_9, .int v_10, .ref a_11, .ref a_12, .ref a_83, .int v_84, .int v_85, .ref a_86, .int y_135, .ref a_18, .ref a_89, .int v_90]) := by rw [ef_144]; exact up_self
          refine lv_iload_n hx hb dX11_ages_94 rfl (lv_at hl 1 rfl) ?_
          exact W.iret (v := y_135) hx hb hr (fun t ht hW => ⟨⟨y_135, f_144, rfl, ⟨hG, (by constructor <;> omega), hfr0, hfr11_8, hrr11_2, hrr11_3, hrr11_5, hrr11_6, hrr11_7, hrr11_9, hrr11_10, hrr11_16, (by intro w1 z1 e1 d1; rw [hfo_1] at e1; rw [hfo_148] at d1; obtain rfl := Option.some.inj e1; obtain rfl := Option.some.inj d1; omega), (fun d9 h9 => by rw [hfo_148] at h9; obtain rfl := Option.some.inj h9; exact hT_91), hT1⟩, by rw [ht]; exact hP, va_K.moved hW.alike hK, pl_in hD⟩, hS.F ht⟩) hS.2.2 dX11_ages_95
        · skip
          rw [Int32.le_iff_toInt_le] at c_142
          refine lv_aload_n hx hb dX11_ages_44 rfl (lv_at hl 2 rfl) ?_
          refine tk_getP (D := (dC, dI)) (ci := 11) (v := .ref a_7) (C := RX11) (T := TX11) (N := 19) hx hb hU inlX11 hown hK hP mo0 hfo_140 rfl 5 (by decide) (hU _ wd_25) (fun _ h9 => h9) rfl dX11_ages_45 ?_
          refine tk_getP (D := (dC, dI)) (ci := 6) (v := .ref a_24) (C := RX6) (T := TX6) (N := 9) hx hb hU inlX6 hown hK hP ma_7 hfo_138 rfl 2 (by decide) (hU _ wd_1102) (fun _ h9 => h9) rfl dX11_ages_48 ?_
          refine lv_iload_n hx hb dX11_ages_51 rfl (lv_at hl 0 rfl) ?_
          obtain ⟨g_150, hfo_149, hbg_150⟩ := un_530 (hG _ ma_24) ka_24
          refine tk_ildP hx hb hK hP 0 ma_24 hfo_149 rfl (vp_in_iff.mpr (by constructor <;> omega)) dX11_ages_52 ?_
          refine lv_topi (fun x_151 ex_151 => ?_)
          have bx_151 : (0 ≤ x_151.toInt ∧ x_151.toInt ≤ 7) := by rw [ex_151]; exact hbg_150 _
          refine lv_istore_n (lv' := [(3, .int x_151), (2, .int y_134), (1, .int y_135), (0, .ref o0)]) hx hb dX11_ages_53 rfl hl (by decide) rfl (fun ls hl => ?_)
          refine lv_aload_n hx hb dX11_ages_54 rfl (lv_at hl 3 rfl) ?_
          refine tk_getP (D := (dC, dI)) (ci := 11) (v := .ref a_7) (C := RX11) (T := TX11) (N := 19) hx hb hU inlX11 hown hK hP mo0 hfo_140 rfl 5 (by decide) (hU _ wd_25) (fun _ h9 => h9) rfl dX11_ages_55 ?_
          refine tk_getP (D := (dC, dI)) (ci := 6) (v := .int v_22) (C := RX6) (T := TX6) (N := 9) hx hb hU inlX6 hown hK hP ma_7 hfo_138 rfl 0 (by decide) (hU _ wd_677) (fun _ h9 => h9) rfl dX11_ages_58 ?_
          refine lv_iload_n hx hb dX11_ages_61 rfl (lv_at hl 0 rfl) ?_
          refine lv_ishr hx hb dX11_ages_62 ?_
          refine lv_topi (fun x_152 ex_152 => ?_)
          have bx_152 : ((-2147483648) ≤ x_152.toInt ∧ x_152.toInt ≤ 2147483647) := ⟨i32_lo _, i32_hi _⟩
          refine lv_iconst (v := 1) hx hb dX11_ages_63 (by decide) ?_
          refine lv_iand hx hb dX11_ages_64 ?_
          refine lv_topi (fun x_153 ex_153 => ?_)
          have bx_153 : (0 ≤ x_153.toInt ∧ x_153.toInt ≤ 1) := by rw [ex_153]; have h8 := an_C x_152 (m := 1) (by decide); rw [ti_1] at h8; exact h8
          refine lv_iconst (v := 1) hx hb dX11_ages_65 (by decide) ?_
          refine lv_icmp_ne (tgt := 83) hx hb dX11_ages_66 (by decide) (fun c_154 => ?_) (fun c_154 => ?_)
          · skip
            rw [← Int32.toInt_inj, ti_1] at c_154
            obtain ⟨x_155, ex_155⟩ : ∃ y : Int32, y_134 + 1 = y := ⟨_, rfl⟩
            have hx_155 : x_155.toInt = y_134.toInt + 1 := by rw [← ex_155, ad_I (by rw [ti_1]; omega) (by rw [ti_1]; omega), ti_1]
            have bx_155 : (1 ≤ x_155.toInt ∧ x_155.toInt ≤ 8) := by constructor <;> omega
            refine lv_iinc (v := x_155) (lv' := [(2, .int x_155), (3, .int x_151), (1, .int y_135), (0, .ref o0)]) hx hb dX11_ages_83 hl (k := 1) rfl ex_155 (by decide) rfl (fun ls hl => ?_)
            refine lv_goto (tgt := 33) hx hb dX11_ages_86 (by decide) ?_
            obtain ⟨g_157, hfo_156, hbg_157⟩ := un_507 (hG _ ma_86) ka_86
            exact ih_hloop_133 x_155 (by constructor <;> omega) y_135 (by constructor <;> omega) f_137 hG _ _ hP hS hD hfr0 hfr11_8 hrr11_2 hrr11_3 hrr11_5 hrr11_6 hrr11_7 hrr11_9 hrr11_10 hrr11_16 hfo_138 hfo_139 hfo_140 hfo_141 hT_91 hT1 (fun g9 h9 j hj => hxg g9 h9 j (by omega)) (by omega) ls (lv_sub hl [0, 2, 3] rfl)
          · skip
            rw [← Int32.toInt_inj, ti_1] at c_154
            have hkc : x_151.toInt < v_44.toInt := bit_lt uu5 (by constructor <;> omega) (by constructor <;> omega) ex_152 ex_153 (by omega)
            obtain ⟨g_159, hfo_158, hbg_159⟩ := un_507 (hG _ ma_86) ka_86
            have hcwg_159 := hxg g_159 hfo_158
            refine lv_aload_n hx hb dX11_ages_69 rfl (lv_at hl 3 rfl) ?_
            refine tk_getP (D := (dC, dI)) (ci := 11) (v := .ref a_5) (C := RX11) (T := TX11) (N := 19) hx hb hU inlX11 hown hK hP mo0 hfo_140 rfl 3 (by decide) (hU _ wd_19) (fun _ h9 => h9) rfl dX11_ages_70 ?_
            refine lv_iload_n hx hb dX11_ages_73 rfl (lv_at hl 0 rfl) ?_
            refine lv_aload_n hx hb dX11_ages_74 rfl (lv_at hl 3 rfl) ?_
            refine tk_getP (D := (dC, dI)) (ci := 11) (v := .ref a_86) (C := RX11) (T := TX11) (N := 19) hx hb hU inlX11 hown hK hP mo0 hfo_140 rfl 14 (by decide) (hU _ wd_41) (fun _ h9 => h9) rfl dX11_ages_75 ?_
            refine lv_iload_n hx hb dX11_ages_78 rfl (lv_at hl 2 rfl) ?_
            refine tk_ViP (As := [.int x_151, .ref a_86, .int y_135]) (rest := []) (n := 3) hx hb hml hown hU hN hZ (s_X7_ageBy_k7_a507_t l (dC, dI) cI cL cZ cR cG cH Z kd L f_137 hG a_5 ma_5 ka_5 x_151 (by constructor <;> omega) a_86 ma_86 ka_86 y_135 (by constructor <;> omega) hT_91 (fun n9 g9 h1 h2 j hj => by rw [hfo_139] at h1; obtain rfl := Option.some.inj h1; rw [hfo_158] at h2; cases h2; have h8 := hcwg_159 j (by omega); constructor <;> omega) (fun c9 h9 => by rw [hfo_139] at h9; obtain rfl := Option.some.inj h9; omega)) wd_1103 wd_1104 wd_1105 wd_28 wd_1106 (by decide +kernel) ⟨Nat.le_of_ble_eq_true rfl, Nat.le_of_ble_eq_true rfl⟩ hK hP hD hS ma_5 hfo_139 7 rfl rfl rfl hl.1 rfl (Nat.le_of_ble_eq_true rfl) dX11_ages_79 ⟨Nat.le_of_ble_eq_true rfl, Nat.le_of_ble_eq_true rfl⟩ (fun x_160 f_161 H locs hw hP hD hS => ?_)
            obtain ⟨hG, bx_160, relx_160, hkc_162, hxp_163, hTc_164⟩ := hw
            have hfo_166 : f_161 a_7 = .inr (6, [.int v_22, .int v_23, .ref a_24, .ref a_25, .ref a_26, .int v_27, .ref a_28, .ref a_29, .ref a_30]) := by rw [hkc_162 a_7 (by rw [ka_7]; decide) (by rw [ka_7]; decide)]; exact hfo_138
            have hfo_167 : f_161 a_5 = .inr (7, [.ref a_32, .int v_33, .ref a_34, .ref a_35, .ref a_36, .ref a_37, .int v_38, .ref a_39, .ref a_40, .ref a_41, .ref a_42, .ref a_43, .int v_44, .ref a_45, .ref a_46, .ref a_47]) := by rw [hkc_162 a_5 (by rw [ka_5]; decide) (by rw [ka_5]; decide)]; exact hfo_139
            have hfo_168 : f_161 o0 = .inr (11, [.ref a_72, .int v_73, .ref a_4, .ref a_5, .ref a_76, .ref a_7, .ref a_8, .ref a_9, .int v_10, .ref a_11, .ref a_12, .ref a_83, .int v_84, .int v_85, .ref a_86, .int v_87, .ref a_18, .ref a_89, .int v_90]) := by rw [hkc_162 o0 (by rw [ko0]; decide) (by rw [ko0]; decide)]; exact hfo_140
            have hfo_169 : f_161 a_18 = .inl (cI, 16, .inl g_93) := by rw [hkc_162 a_18 (by rw [ka_18]; decide) (by rw [ka_18]; decide)]; exact hfo_141
            have hfo_170 : f_161 a_24 = .inl (cI, 8, .inl g_150) := by rw [hkc_162 a_24 (by rw [ka_24]; decide) (by rw [ka_24]; decide)]; exact hfo_149
            have hfr0 : ∀ b, kd b ≠ 11 → kd b ≠ 507 → kd b ≠ 516 → kd b ≠ 540 → f_161 b = f b := fun b q11 q507 q516 q540 => (hkc_162 b q507 q516).trans (hfr0 b q11 q507 q516 q540)
            have hfr11_8 : ∀ b, kd b = 11 → fldI (f_161 b) 8 = fldI (f b) 8 := fun b kb => (congrArg (fun x => fldI x 8) (hkc_162 b (by rw [kb]; decide) (by rw [kb]; decide))).trans (hfr11_8 b kb)
            have hrr11_2 : ∀ b, kd b = 11 → fldR (f_161 b) 2 = fldR (f b) 2 := fun b kb => (congrArg (fun x => fldR x 2) (hkc_162 b (by rw [kb]; decide) (by rw [kb]; decide))).trans (hrr11_2 b kb)
            have hrr11_3 : ∀ b, kd b = 11 → fldR (f_161 b) 3 = fldR (f b) 3 := fun b kb => (congrArg (fun x => fldR x 3) (hkc_162 b (by rw [kb]; decide) (by rw [kb]; decide))).trans (hrr11_3 b kb)
            have hrr11_5 : ∀ b, kd b = 11 → fldR (f_161 b) 5 = fldR (f b) 5 := fun b kb => (congrArg (fun x => fldR x 5) (hkc_162 b (by rw [kb]; decide) (by rw [kb]; decide))).trans (hrr11_5 b kb)
            have hrr11_6 : ∀ b, kd b = 11 → fldR (f_161 b) 6 = fldR (f b) 6 := fun b kb => (congrArg (fun x => fldR x 6) (hkc_162 b (by rw [kb]; decide) (by rw [kb]; decide))).trans (hrr11_6 b kb)
            have hrr11_7 : ∀ b, kd b = 11 → fldR (f_161 b) 7 = fldR (f b) 7 := fun b kb => (congrArg (fun x => fldR x 7) (hkc_162 b (by rw [kb]; decide) (by rw [kb]; decide))).trans (hrr11_7 b kb)
            have hrr11_9 : ∀ b, kd b = 11 → fldR (f_161 b) 9 = fldR (f b) 9 := fun b kb => (congrArg (fun x => fldR x 9) (hkc_162 b (by rw [kb]; decide) (by rw [kb]; decide))).trans (hrr11_9 b kb)
            have hrr11_10 : ∀ b, kd b = 11 → fldR (f_161 b) 10 = fldR (f b) 10 := fun b kb => (congrArg (fun x => fldR x 10) (hkc_162 b (by rw [kb]; decide) (by rw [kb]; decide))).trans (hrr11_10 b kb)
            have hrr11_16 : ∀ b, kd b = 11 → fldR (f_161 b) 16 = fldR (f b) 16 := fun b kb => (congrArg (fun x => fldR x 16) (hkc_162 b (by rw [kb]; decide) (by rw [kb]; decide))).trans (hrr11_16 b kb)
            have hT_91 : trel kd 7 508 510 515 4 f_161 a_5 := hT_91.keep (fun b q => hkc_162 b (by rw [q]; decide) (by rw [q]; decide)) (fun b q => hkc_162 b (by rw [q]; decide) (by rw [q]; decide)) (fun b q => hkc_162 b (by rw [q]; decide) (by rw [q]; decide)) (fun b q => hkc_162 b (by rw [q]; decide) (by rw [q]; decide)) (fun b q => congrArg (fun x => fldI x 1) (hkc_162 b (by rw [q]; decide) (by rw [q]; decide)))
            have hT1 : urel kd 5 3 6 7 f_161 o0 := hT1.keep (fun b q => congrArg (fun x => fldR x 5) (hkc_162 b (by rw [q]; decide) (by rw [q]; decide))) (fun b q => congrArg (fun x => fldR x 3) (hkc_162 b (by rw [q]; decide) (by rw [q]; decide))) (fun b q => congrArg (fun x => fldI x 0) (hkc_162 b (by rw [q]; decide) (by rw [q]; decide))) (fun b q => congrArg (fun x => fldI x 12) (hkc_162 b (by rw [q]; decide) (by rw [q]; decide)))
            obtain ⟨g_172, hfo_171, hbg_172⟩ := un_507 (hG _ ma_86) ka_86
            have hagx_160 := hxp_163 v_33 g_172 (by rw [← hkc_162 a_5 (by rw [ka_5]; decide) (by rw [ka_5]; decide), hfo_167]; rfl) hfo_171
            refine lv_istore_n (lv' := [(1, .int x_160), (3, .int x_151), (2, .int y_134), (0, .ref o0)]) hx hb dX11_ages_82 rfl hl (by decide) rfl (fun ls hl => ?_)
            obtain ⟨x_173, ex_173⟩ : ∃ y : Int32, y_134 + 1 = y := ⟨_, rfl⟩
            have hx_173 : x_173.toInt = y_134.toInt + 1 := by rw [← ex_173, ad_I (by rw [ti_1]; omega) (by rw [ti_1]; omega), ti_1]
            have bx_173 : (1 ≤ x_173.toInt ∧ x_173.toInt ≤ 8) := by constructor <;> omega
            refine lv_iinc (v := x_173) (lv' := [(2, .int x_173), (1, .int x_160), (3, .int x_151), (0, .ref o0)]) hx hb dX11_ages_83 hl (k := 2) rfl ex_173 (by decide) rfl (fun ls hl => ?_)
            refine lv_goto (tgt := 33) hx hb dX11_ages_86 (by decide) ?_
            exact ih_hloop_133 x_173 (by constructor <;> omega) x_160 (by constructor <;> omega) f_161 hG _ _ hP hS hD hfr0 hfr11_8 hrr11_2 hrr11_3 hrr11_5 hrr11_6 hrr11_7 hrr11_9 hrr11_10 hrr11_16 hfo_166 hfo_167 hfo_168 hfo_169 hTc_164 hT1 (fun g9 h9 j hj => by rw [hfo_171] at h9; cases h9; exact hagx_160 j (by omega)) (by omega) ls (lv_sub hl [0, 1, 3] rfl)
    exact hloop_133 9 0 (by decide) x_53 (by constructor <;> omega) f_99 hG _ _ hP hS hD hfr0 hfr11_8 hrr11_2 hrr11_3 hrr11_5 hrr11_6 hrr11_7 hrr11_9 hrr11_10 hrr11_16 hfo_100 hfo_101 hfo_102 hfo_103 hT_91 hT1 (fun g9 h9 j hj => by rw [hfo_104] at h9; cases h9; exact hag0 j (by omega)) (by (try rw [ti_0]) <;> omega) ls hl
  · skip
    rw [← Int32.toInt_inj, ti_m1] at c_94
    refine lv_iconst (v := (-1)) hx hb dX11_ages_15 (by decide) ?_
    exact W.iret (v := (-1)) hx hb hr (fun t ht hW => ⟨⟨(-1), f_54, rfl, ⟨hG, (by decide), hfr0, hfr11_8, hrr11_2, hrr11_3, hrr11_5, hrr11_6, hrr11_7, hrr11_9, hrr11_10, hrr11_16, (by intro w1 z1 e1 d1; rw [hfo_1] at e1; rw [hfo_71] at d1; obtain rfl := Option.some.inj e1; obtain rfl := Option.some.inj d1; (try rw [ti_m1]) <;> omega), (fun d9 h9 => by rw [hfo_71] at h9; obtain rfl := Option.some.inj h9; exact hT_91), hT1⟩, by rw [ht]; exact hP, va_K.moved hW.alike hK, pl_in hD⟩, hS.F ht⟩) hS.2.2 dX11_ages_16
set_option maxHeartbeats 8000000 in
set_option maxRecDepth 100000 in
theorem s_X0_fillAfter_k0_k7 (l : Launch) (D : va_G) (cI cL cZ cR cG cH : ClassId) (Z : zT) (kd : Nat → Nat) (L : List Nat) (f : Nat → va_E) (hG : GI (okc cI cL cZ cR cG cH L kd) kd L f) (o0 : Nat) (mo0 : o0 ∈ L) (ko0 : kd o0 = 0) (o1 : Nat) (mo1 : o1 ∈ L) (ko1 : kd o1 = 7) (p2 : Int32) (bp2 : (0 ≤ p2.toInt ∧ p2.toInt ≤ 7)) (hxtr0 : trel kd 7 508 510 515 4 f o1) (hxpre0 : ∀ c9, fldI (f o1) 12 = some c9 → p2.toInt < c9.toInt) : mPV l D cI cL cZ cR cG cH Z yX0_fillAfter cX0_fillAfter 10 none 3 78 [.ref o0, .ref o1, .int p2] L f (fun (f9 : Nat → va_E) => GI (okc cI cL cZ cR cG cH L kd) kd L f9 ∧ (∀ b, kd b ≠ 516 → kd b ≠ 534 → kd b ≠ 538 → f9 b = f b) ∧ (trel kd 7 508 510 515 4 f9 o1)) := by
  obtain ⟨dC, dI⟩ := D
  refine Met.ofW (cc := cX0_fillAfter) (maxL := 10) (ret := none) (by decide) rfl ?_
  intro p e s m args below meth c s₁ B hml hv
  obtain ⟨rfl, hP, hK, hD0, hN, hZ⟩ := hv
  have hx := B.exec
  have hb := B.bytes
  have hr := B.returns
  have hU : ∀ w ∈ wsU, w.before _ s = true := fun w h => atoms_spec (ws := wU yX0_fillAfter cX0_fillAfter 10 none) B.pre w (List.mem_cons_of_mem _ h)
  have hown : s.vm.findClass RX0 = some m.cls := findClass_of_methodNamed B.named
  have hlocks := B.notSynchronized
  have hD := pl_in hD0
  have hS : va_S (fun q => q ∈ L) s.heap s.heap [] := va_S.rf
  have hl := lv_entry ([.ref o0, .ref o1, .int p2]) (n := 10) (Nat.le_of_ble_eq_true rfl)
  rw [lg_entry_eq]
  generalize (lg_sl ([.ref o0, .ref o1, .int p2]) ++ List.replicate (10 - (lg_sl ([.ref o0, .ref o1, .int p2])).length) Slot.unset).toArray = ls at hl ⊢
  have hl : lv_has ls 10 [(0, .ref o0), (1, .ref o1), (2, .int p2)] := hl
  have hfr0 : ∀ b, kd b ≠ 516 → kd b ≠ 534 → kd b ≠ 538 → f b = f b := fun _ _ _ _ => rfl
  have hT0 := hxtr0
  obtain ⟨a_2, v_3, a_4, a_5, a_6, a_7, v_8, a_9, a_10, a_11, a_12, a_13, v_14, a_15, a_16, a_17, hfo_1, ⟨ma_2, ka_2⟩, bv_3, ⟨ma_4, ka_4⟩, ⟨ma_5, ka_5⟩, ⟨ma_6, ka_6⟩, ⟨ma_7, ka_7⟩, bv_8, ⟨ma_9, ka_9⟩, ⟨ma_10, ka_10⟩, ⟨ma_11, ka_11⟩, ⟨ma_12, ka_12⟩, ⟨ma_13, ka_13⟩, bv_14, ⟨ma_15, ka_15⟩, ⟨ma_16, ka_16⟩, ⟨ma_17, ka_17⟩⟩ := un_7 (hG _ mo1) ko1
  have hkr := hxpre0 v_14 (by rw [hfo_1]; rfl)
  refine lv_iconst (v := 0) hx hb dX0_fillAfter_0 (by decide) ?_
  refine lv_istore_n (lv' := [(3, .int 0), (0, .ref o0), (1, .ref o1), (2, .int p2)]) hx hb dX0_fillAfter_1 rfl hl (by decide) rfl (fun ls hl => ?_)
  have hloop_23 : ∀ (n : Nat), ∀ (y_24 : Int32), (0 ≤ y_24.toInt ∧ y_24.toInt ≤ 9) → ∀ (f_26 : Nat → va_E), GI (okc cI cL cZ cR cG cH L kd) kd L f_26 → ∀ (H : Heap) (locs : List Loc), va_P (dC, dI) vwCl (va_pl L f_26) H → va_S (fun q => q ∈ L) s.heap H locs → va_D (fun q => q ∈ L) (va_pl L f_26) → (∀ b, kd b ≠ 516 → kd b ≠ 534 → kd b ≠ 538 → f_26 b = f b) → (f_26 o1 = .inr (7, [.ref a_2, .int v_3, .ref a_4, .ref a_5, .ref a_6, .ref a_7, .int v_8, .ref a_9, .ref a_10, .ref a_11, .ref a_12, .ref a_13, .int v_14, .ref a_15, .ref a_16, .ref a_17])) → trel kd 7 508 510 515 4 f_26 o1 → 9 - y_24.toInt < (n : Int) → ∀ (ls : Array Slot), lv_has ls 10 [(3, .int y_24), (0, .ref o0), (1, .ref o1), (2, .int p2)] → W p l e (headSpec (wU yX0_fillAfter cX0_fillAfter 10 none) { frames := 3, cells := 0, slots := 0, locals := 78 }).room s m [.ref o0, .ref o1, .int p2].toArray below meth c H locs 0 0 (MQ below (va_Qv (fun (f9 : Nat → va_E) => GI (okc cI cL cZ cR cG cH L kd) kd L f9 ∧ (∀ b, kd b ≠ 516 → kd b ≠ 534 → kd b ≠ 538 → f9 b = f b) ∧ (trel kd 7 508 510 515 4 f9 o1)) (qP (dC, dI) cI cL cZ cR cG cH L) (fun q => q ∈ L)) [.ref o0, .ref o1, .int p2].toArray s 0 0 (fun q => q ∈ L)) (F0 m 2 ls []) := by
    intro n
    induction n with
    | zero => intro y_24 by_24 f_26 hG H locs hP hS hD hfr0 hfo_27 hT0 hmuhloop_23 ls hl; exfalso; omega
    | succ n ih_hloop_23 =>
      intro y_24 by_24 f_26 hG H locs hP hS hD hfr0 hfo_27 hT0 hmuhloop_23 ls hl
      refine lv_iload_n hx hb dX0_fillAfter_2 rfl (lv_at hl 0 rfl) ?_
      refine lv_aload_n hx hb dX0_fillAfter_3 rfl (lv_at hl 2 rfl) ?_
      refine tk_getP (D := (dC, dI)) (ci := 7) (v := .int v_3) (C := RX7) (T := TX7) (N := 16) hx hb hU inlX7 hown hK hP mo1 hfo_27 rfl 1 (by decide) (hU _ wd_1204) (fun _ h9 => h9) rfl dX0_fillAfter_4 ?_
      refine lv_icmp_gt (tgt := 152) hx hb dX0_fillAfter_7 (by decide) (fun c_28 => ?_) (fun c_28 => ?_)
      · skip
        rw [Int32.lt_iff_toInt_lt] at c_28
        exact W.vret hx hb hr (fun t ht hW => ⟨⟨f_26, rfl, ⟨hG, hfr0, hT0⟩, by rw [ht]; exact hP, va_K.moved hW.alike hK, pl_in hD⟩, hS.F ht⟩) hS.2.2 dX0_fillAfter_152
      · skip
        rw [Int32.lt_iff_toInt_lt] at c_28
        refine lv_iload_n hx hb dX0_fillAfter_10 rfl (lv_at hl 0 rfl) ?_
        refine lv_if_ne (tgt := 18) hx hb dX0_fillAfter_11 (by decide) (fun c_29 => ?_) (fun c_29 => ?_)
        · skip
          rw [← Int32.toInt_inj, ti_0] at c_29
          refine lv_aload_n hx hb dX0_fillAfter_18 rfl (lv_at hl 2 rfl) ?_
          refine tk_getP (D := (dC, dI)) (ci := 7) (v := .int v_3) (C := RX7) (T := TX7) (N := 16) hx hb hU inlX7 hown hK hP mo1 hfo_27 rfl 1 (by decide) (hU _ wd_1204) (fun _ h9 => h9) rfl dX0_fillAfter_19 ?_
          refine lv_istore (lv' := [(4, .int v_3), (3, .int y_24), (0, .ref o0), (1, .ref o1), (2, .int p2)]) hx hb dX0_fillAfter_22 hl (by decide) rfl (fun ls hl => ?_)
          refine lv_iconst (v := 0) hx hb dX0_fillAfter_24 (by decide) ?_
          refine lv_istore (lv' := [(5, .int 0), (4, .int v_3), (3, .int y_24), (0, .ref o0), (1, .ref o1), (2, .int p2)]) hx hb dX0_fillAfter_25 hl (by decide) rfl (fun ls hl => ?_)
          have hloop_35 : ∀ (n : Nat), ∀ (y_36 : Int32), (0 ≤ y_36.toInt ∧ y_36.toInt ≤ 9) → ∀ (f_38 : Nat → va_E), GI (okc cI cL cZ cR cG cH L kd) kd L f_38 → ∀ (H : Heap) (locs : List Loc), va_P (dC, dI) vwCl (va_pl L f_38) H → va_S (fun q => q ∈ L) s.heap H locs → va_D (fun q => q ∈ L) (va_pl L f_38) → (∀ b, kd b ≠ 516 → kd b ≠ 534 → kd b ≠ 538 → f_38 b = f b) → (f_38 o1 = .inr (7, [.ref a_2, .int v_3, .ref a_4, .ref a_5, .ref a_6, .ref a_7, .int v_8, .ref a_9, .ref a_10, .ref a_11, .ref a_12, .ref a_13, .int v_14, .ref a_15, .ref a_16, .ref a_17])) → trel kd 7 508 510 515 4 f_38 o1 → 9 - y_36.toInt < (n : Int) → ∀ (ls : Array Slot), lv_has ls 10 [(5, .int y_36), (4, .int v_3), (3, .int y_24), (0, .ref o0), (1, .ref o1), (2, .int p2)] → W p l e (headSpec (wU yX0_fillAfter cX0_fillAfter 10 none) { frames := 3, cells := 0, slots := 0, locals := 78 }).room s m [.ref o0, .ref o1, .int p2].toArray below meth c H locs 0 0 (MQ below (va_Qv (fun (f9 : Nat → va_E) => GI (okc cI cL cZ cR cG cH L kd) kd L f9 ∧ (∀ b, kd b ≠ 516 → kd b ≠ 534 → kd b ≠ 538 → f9 b = f b) ∧ (trel kd 7 508 510 515 4 f9 o1)) (qP (dC, dI) cI cL cZ cR cG cH L) (fun q => q ∈ L)) [.ref o0, .ref o1, .int p2].toArray s 0 0 (fun q => q ∈ L)) (F0 m 27 ls []) := by
            intro n
            induction n with
            | zero => intro y_36 by_36 f_38 hG H locs hP hS hD hfr0 hfo_39 hT0 hmuhloop_35 ls hl; exfalso; omega
            | succ n ih_hloop_35 =>
              intro y_36 by_36 f_38 hG H locs hP hS hD hfr0 hfo_39 hT0 hmuhloop_35 ls hl
              refine lv_iload hx hb dX0_fillAfter_27 (lv_at hl 0 rfl) ?_
              refine lv_iload hx hb dX0_fillAfter_29 (lv_at hl 1 rfl) ?_
              refine lv_icmp_gt (tgt := 146) hx hb dX0_fillAfter_31 (by decide) (fun c_40 => ?_) (fun c_40 => ?_)
              · skip
                rw [Int32.lt_iff_toInt_lt] at c_40
                obtain ⟨x_41, ex_41⟩ : ∃ y : Int32, y_24 + 1 = y := ⟨_, rfl⟩
                have hx_41 : x_41.toInt = y_24.toInt + 1 := by rw [← ex_41, ad_I (by rw [ti_1]; omega) (by rw [ti_1]; omega), ti_1]
                have bx_41 : (2 ≤ x_41.toInt ∧ x_41.toInt ≤ 9) := by constructor <;> omega
                refine lv_iinc (v := x_41) (lv' := [(3, .int x_41), (5, .int y_36), (4, .int v_3), (0, .ref o0), (1, .ref o1), (2, .int p2)]) hx hb dX0_fillAfter_146 hl (k := 2) rfl ex_41 (by decide) rfl (fun ls hl => ?_)
                refine lv_goto (tgt := 2) hx hb dX0_fillAfter_149 (by decide) ?_
                exact ih_hloop_23 x_41 (by constructor <;> omega) f_38 hG _ _ hP hS hD hfr0 hfo_39 hT0 (by omega) ls (lv_sub hl [0, 3, 4, 5] rfl)
              · skip
                rw [Int32.lt_iff_toInt_lt] at c_40
                refine lv_aload_n hx hb dX0_fillAfter_34 rfl (lv_at hl 3 rfl) ?_
                obtain ⟨a_43, a_44, a_45, v_46, a_47, a_48, a_49, v_50, a_51, v_52, v_53, hfo_42, ⟨ma_43, ka_43⟩, ⟨ma_44, ka_44⟩, ⟨ma_45, ka_45⟩, bv_46, ⟨ma_47, ka_47⟩, ⟨ma_48, ka_48⟩, ⟨ma_49, ka_49⟩, ⟨ma_51, ka_51⟩⟩ := un_0 (hG _ mo0) ko0
                have bv_50 : ((-2147483648) ≤ v_50.toInt ∧ v_50.toInt ≤ 2147483647) := ⟨i32_lo _, i32_hi _⟩
                have bv_52 : ((-2147483648) ≤ v_52.toInt ∧ v_52.toInt ≤ 2147483647) := ⟨i32_lo _, i32_hi _⟩
                have bv_53 : ((-2147483648) ≤ v_53.toInt ∧ v_53.toInt ≤ 2147483647) := ⟨i32_lo _, i32_hi _⟩
                refine tk_getP (D := (dC, dI)) (ci := 0) (v := .ref a_51) (C := RX0) (T := TX0) (N := 11) hx hb hU inlX0 hown hK hP mo0 hfo_42 rfl 8 (by decide) (hU _ wd_163) (fun _ h9 => h9) rfl dX0_fillAfter_35 ?_
                refine lv_iconst (v := 0) hx hb dX0_fillAfter_38 (by decide) ?_
                refine lv_iload_n hx hb dX0_fillAfter_39 rfl (lv_at hl 2 rfl) ?_
                obtain ⟨g_55, hfo_54, hbg_55⟩ := un_538 (hG _ ma_51) ka_51
                refine tk_istP hx hb hK hP hD hS 0 ma_51 hfo_54 rfl (vp_in_nI (n := 0) (by decide) (by decide)) dX0_fillAfter_40 (fun H locs hP hD hS => ?_)
                obtain ⟨g_56, eqg_56⟩ : ∃ y : Nat → Int32, y = upd g_55 (Int32.toNatClampNeg 0) y_24 := ⟨_, rfl⟩
                rw [← eqg_56] at hP hD
                have hbg_56 : ∀ j, 0 ≤ (g_56 j).toInt ∧ (g_56 j).toInt ≤ 8 := by rw [eqg_56]; exact okI_up hbg_55 (by constructor <;> omega) _
                obtain ⟨f_58, ef_58⟩ : ∃ y : Nat → va_E, y = va_up f_38 a_51 (.inl (cI, 2, .inl g_56)) := ⟨_, rfl⟩
                have hP : va_P (dC, dI) vwCl (va_pl L f_58) H := by rw [ef_58]; exact hP
                have hD : va_D (fun q => q ∈ L) (va_pl L f_58) := by rw [ef_58]; exact hD
                have hG : GI (okc cI cL cZ cR cG cH L kd) kd L f_58 := by rw [ef_58]; exact hG.set a_51 (mk_538 ka_51 ⟨_, rfl, hbg_56⟩)
                have hfo_59 : f_58 o1 = .inr (7, [.ref a_2, .int v_3, .ref a_4, .ref a_5, .ref a_6, .ref a_7, .int v_8, .ref a_9, .ref a_10, .ref a_11, .ref a_12, .ref a_13, .int v_14, .ref a_15, .ref a_16, .ref a_17]) := by rw [ef_58, up_ne (kd_ne ka_51 ko1 (by decide))]; exact hfo_39
                have hfo_60 : f_58 o0 = .inr (0, [.ref a_43, .ref a_44, .ref a_45, .int v_46, .ref a_47, .ref a_48, .ref a_49, .int v_50, .ref a_51, .int v_52, .int v_53]) := by rw [ef_58, up_ne (kd_ne ka_51 ko0 (by decide))]; exact hfo_42
                have hfr0 : ∀ b, kd b ≠ 516 → kd b ≠ 534 → kd b ≠ 538 → f_58 b = f b := fun b q516 q534 q538 => (congrFun ef_58 b).trans ((up_ne (fun e9 => q538 (by rw [e9]; exact ka_51))).trans (hfr0 b q516 q534 q538))
                have hT0 : trel kd 7 508 510 515 4 f_58 o1 := by rw [ef_58]; exact hT0.up ka_51 (by decide) (by decide) (by decide) (by decide) (by decide)
                have hfo_61 : f_58 a_51 = .inl (cI, 2, .inl g_56) := by rw [ef_58]; exact up_self
                refine lv_aload_n hx hb dX0_fillAfter_41 rfl (lv_at hl 3 rfl) ?_
                refine tk_getP (D := (dC, dI)) (ci := 0) (v := .ref a_51) (C := RX0) (T := TX0) (N := 11) hx hb hU inlX0 hown hK hP mo0 hfo_60 rfl 8 (by decide) (hU _ wd_163) (fun _ h9 => h9) rfl dX0_fillAfter_42 ?_
                refine lv_iconst (v := 1) hx hb dX0_fillAfter_45 (by decide) ?_
                refine lv_iload hx hb dX0_fillAfter_46 (lv_at hl 0 rfl) ?_
                refine tk_istP hx hb hK hP hD hS 0 ma_51 hfo_61 rfl (vp_in_nI (n := 1) (by decide) (by decide)) dX0_fillAfter_48 (fun H locs hP hD hS => ?_)
                obtain ⟨g_62, eqg_62⟩ : ∃ y : Nat → Int32, y = upd g_56 (Int32.toNatClampNeg 1) y_36 := ⟨_, rfl⟩
                rw [← eqg_62] at hP hD
                have hbg_62 : ∀ j, 0 ≤ (g_62 j).toInt ∧ (g_62 j).toInt ≤ 8 := by rw [eqg_62]; exact okI_up hbg_56 (by constructor <;> omega) _
                obtain ⟨f_64, ef_64⟩ : ∃ y : Nat → va_E, y = va_up f_58 a_51 (.inl (cI, 2, .inl g_62)) := ⟨_, rfl⟩
                have hP : va_P (dC, dI) vwCl (va_pl L f_64) H := by rw [ef_64]; exact hP
                have hD : va_D (fun q => q ∈ L) (va_pl L f_64) := by rw [ef_64]; exact hD
                have hG : GI (okc cI cL cZ cR cG cH L kd) kd L f_64 := by rw [ef_64]; exact hG.set a_51 (mk_538 ka_51 ⟨_, rfl, hbg_62⟩)
                have hfo_65 : f_64 o1 = .inr (7, [.ref a_2, .int v_3, .ref a_4, .ref a_5, .ref a_6, .ref a_7, .int v_8, .ref a_9, .ref a_10, .ref a_11, .ref a_12, .ref a_13, .int v_14, .ref a_15, .ref a_16, .ref a_17]) := by rw [ef_64, up_ne (kd_ne ka_51 ko1 (by decide))]; exact hfo_59
                have hfo_66 : f_64 o0 = .inr (0, [.ref a_43, .ref a_44, .ref a_45, .int v_46, .ref a_47, .ref a_48, .ref a_49, .int v_50, .ref a_51, .int v_52, .int v_53]) := by rw [ef_64, up_ne (kd_ne ka_51 ko0 (by decide))]; exact hfo_60
                have hfr0 : ∀ b, kd b ≠ 516 → kd b ≠ 534 → kd b ≠ 538 → f_64 b = f b := fun b q516 q534 q538 => (congrFun ef_64 b).trans ((up_ne (fun e9 => q538 (by rw [e9]; exact ka_51))).trans (hfr0 b q516 q534 q538))
                have hT0 : trel kd 7 508 510 515 4 f_64 o1 := by rw [ef_64]; exact hT0.up ka_51 (by decide) (by decide) (by decide) (by decide) (by decide)
                have hfo_67 : f_64 a_51 = .inl (cI, 2, .inl g_62) := by rw [ef_64]; exact up_self
                refine lv_iload_n hx hb dX0_fillAfter_49 rfl (lv_at hl 2 rfl) ?_
                refine lv_if_ne (tgt := 57) hx hb dX0_fillAfter_50 (by decide) (fun c_68 => ?_) (fun c_68 => ?_)
                · skip
                  rw [← Int32.toInt_inj, ti_0] at c_68
                  refine lv_iload hx hb dX0_fillAfter_57 (lv_at hl 0 rfl) ?_
                  refine lv_if_ne (tgt := 66) hx hb dX0_fillAfter_59 (by decide) (fun c_69 => ?_) (fun c_69 => ?_)
                  · skip
                    rw [← Int32.toInt_inj, ti_0] at c_69
                    refine lv_iconst (v := 2) hx hb dX0_fillAfter_66 (by decide) ?_
                    refine lv_istore (lv' := [(6, .int 2), (5, .int y_36), (4, .int v_3), (3, .int y_24), (0, .ref o0), (1, .ref o1), (2, .int p2)]) hx hb dX0_fillAfter_67 hl (by decide) rfl (fun ls hl => ?_)
                    have hwf : ∀ j : Nat, (j : Int) < 2 → 1 ≤ (g_62 j).toInt ∧ (g_62 j).toInt ≤ v_3.toInt := by intro j hj; rcases (show j = 0 ∨ j = 1 by omega) with rfl | rfl; (· rw [eqg_62, eqg_56, w2_0]; constructor <;> omega); (· rw [eqg_62, eqg_56, w2_1]; constructor <;> omega)
                    refine lv_aload_n hx hb dX0_fillAfter_69 rfl (lv_at hl 5 rfl) ?_
                    refine lv_iload_n hx hb dX0_fillAfter_70 rfl (lv_at hl 6 rfl) ?_
                    refine lv_aload_n hx hb dX0_fillAfter_71 rfl (lv_at hl 4 rfl) ?_
                    refine tk_getP (D := (dC, dI)) (ci := 0) (v := .ref a_51) (C := RX0) (T := TX0) (N := 11) hx hb hU inlX0 hown hK hP mo0 hfo_66 rfl 8 (by decide) (hU _ wd_163) (fun _ h9 => h9) rfl dX0_fillAfter_72 ?_
                    refine lv_iload hx hb dX0_fillAfter_75 (lv_at hl 0 rfl) ?_
                    refine tk_ViP (As := [.int p2, .ref a_51, .int 2]) (rest := []) (n := 3) hx hb hml hown hU hN hZ (s_X7_ageBy_k7_a538_t l (dC, dI) cI cL cZ cR cG cH Z kd L f_64 hG o1 mo1 ko1 p2 (by constructor <;> omega) a_51 ma_51 ka_51 2 (by decide) hT0 (fun n9 g9 h1 h2 j hj => by rw [hfo_65] at h1; obtain rfl := Option.some.inj h1; rw [hfo_67] at h2; cases h2; (try rw [ti_2] at hj); have h8 := hwf j (by omega); constructor <;> omega) (fun c9 h9 => by rw [hfo_65] at h9; obtain rfl := Option.some.inj h9; omega)) wd_1205 wd_1104 wd_1105 wd_28 wd_1106 (by decide +kernel) ⟨Nat.le_of_ble_eq_true rfl, Nat.le_of_ble_eq_true rfl⟩ hK hP hD hS mo1 hfo_65 7 rfl rfl rfl hl.1 rfl (Nat.le_of_ble_eq_true rfl) dX0_fillAfter_77 ⟨Nat.le_of_ble_eq_true rfl, Nat.le_of_ble_eq_true rfl⟩ (fun x_70 f_71 H locs hw hP hD hS => ?_)
                    obtain ⟨hG, bx_70, relx_70, hkc_72, hxp_73, hTc_74⟩ := hw
                    have hfo_76 : f_71 o1 = .inr (7, [.ref a_2, .int v_3, .ref a_4, .ref a_5, .ref a_6, .ref a_7, .int v_8, .ref a_9, .ref a_10, .ref a_11, .ref a_12, .ref a_13, .int v_14, .ref a_15, .ref a_16, .ref a_17]) := by rw [hkc_72 o1 (by rw [ko1]; decide) (by rw [ko1]; decide)]; exact hfo_65
                    have hfo_77 : f_71 o0 = .inr (0, [.ref a_43, .ref a_44, .ref a_45, .int v_46, .ref a_47, .ref a_48, .ref a_49, .int v_50, .ref a_51, .int v_52, .int v_53]) := by rw [hkc_72 o0 (by rw [ko0]; decide) (by rw [ko0]; decide)]; exact hfo_66
                    have hfr0 : ∀ b, kd b ≠ 516 → kd b ≠ 534 → kd b ≠ 538 → f_71 b = f b := fun b q516 q534 q538 => (hkc_72 b q516 q538).trans (hfr0 b q516 q534 q538)
                    have hT0 : trel kd 7 508 510 515 4 f_71 o1 := hT0.keep (fun b q => hkc_72 b (by rw [q]; decide) (by rw [q]; decide)) (fun b q => hkc_72 b (by rw [q]; decide) (by rw [q]; decide)) (fun b q => hkc_72 b (by rw [q]; decide) (by rw [q]; decide)) (fun b q => hkc_72 b (by rw [q]; decide) (by rw [q]; decide)) (fun b q => congrArg (fun x => fldI x 1) (hkc_72 b (by rw [q]; decide) (by rw [q]; decide)))
                    try rw [ti_2] at relx_70
                    obtain ⟨g_79, hfo_78, hbg_79⟩ := un_538 (hG _ ma_51) ka_51
                    have hagx_70 := hxp_73 v_3 g_79 (by rw [← hkc_72 o1 (by rw [ko1]; decide) (by rw [ko1]; decide), hfo_76]; rfl) hfo_78
                    refine lv_istore (lv' := [(7, .int x_70), (6, .int 2), (5, .int y_36), (4, .int v_3), (3, .int y_24), (0, .ref o0), (1, .ref o1), (2, .int p2)]) hx hb dX0_fillAfter_80 hl (by decide) rfl (fun ls hl => ?_)
                    refine lv_iload hx hb dX0_fillAfter_82 (lv_at hl 0 rfl) ?_
                    refine lv_if_le (tgt := 96) hx hb dX0_fillAfter_84 (by decide) (fun c_80 => ?_) (fun c_80 => ?_)
                    · skip
                      rw [Int32.le_iff_toInt_le, ti_0] at c_80
                      refine lv_iconst (v := 0) hx hb dX0_fillAfter_96 (by decide) ?_
                      refine lv_istore (lv' := [(8, .int 0), (7, .int x_70), (6, .int 2), (5, .int y_36), (4, .int v_3), (3, .int y_24), (0, .ref o0), (1, .ref o1), (2, .int p2)]) hx hb dX0_fillAfter_97 hl (by decide) rfl (fun ls hl => ?_)
                      refine lv_iload hx hb dX0_fillAfter_99 (lv_at hl 1 rfl) ?_
                      refine lv_iconst (v := 1) hx hb dX0_fillAfter_101 (by decide) ?_
                      refine lv_icmp_le (tgt := 114) hx hb dX0_fillAfter_102 (by decide) (fun c_81 => ?_) (fun c_81 => ?_)
                      · skip
                        rw [Int32.le_iff_toInt_le, ti_1] at c_81
                        refine lv_iconst (v := 0) hx hb dX0_fillAfter_114 (by decide) ?_
                        refine lv_istore (lv' := [(9, .int 0), (8, .int 0), (7, .int x_70), (6, .int 2), (5, .int y_36), (4, .int v_3), (3, .int y_24), (0, .ref o0), (1, .ref o1), (2, .int p2)]) hx hb dX0_fillAfter_115 hl (by decide) rfl (fun ls hl => ?_)
                        refine lv_aload_n hx hb dX0_fillAfter_117 rfl (lv_at hl 7 rfl) ?_
                        refine tk_getP (D := (dC, dI)) (ci := 0) (v := .ref a_43) (C := RX0) (T := TX0) (N := 11) hx hb hU inlX0 hown hK hP mo0 hfo_77 rfl 0 (by decide) (hU _ wd_157) (fun _ h9 => h9) rfl dX0_fillAfter_118 ?_
                        refine lv_iload_n hx hb dX0_fillAfter_121 rfl (lv_at hl 9 rfl) ?_
                        refine lv_bipush (v := 73) hx hb dX0_fillAfter_122 (by decide) ?_
                        refine lv_imul hx hb dX0_fillAfter_124 ?_
                        refine lv_topi (fun x_82 ex_82 => ?_)
                        have hx_82 : x_82.toInt = p2.toInt * 73 := by rw [ex_82, ml_I (by rw [ti_73]; omega) (by rw [ti_73]; omega), ti_73]
                        have bx_82 : (0 ≤ x_82.toInt ∧ x_82.toInt ≤ 511) := by constructor <;> omega
                        refine lv_iload_n hx hb dX0_fillAfter_125 rfl (lv_at hl 6 rfl) ?_
                        refine lv_iload hx hb dX0_fillAfter_126 (lv_at hl 4 rfl) ?_
                        refine tk_SiP (As := [.int y_24, .int y_36]) (rest := [.int x_82, .ref a_43]) (n := 2) hx hb hml hown hU hN hZ (s_X0_numberOf l (dC, dI) cI cL cZ cR cG cH Z kd L f_71 hG y_24 (by constructor <;> omega) y_36 (by constructor <;> omega)) wd_1206 wd_1207 wd_37 wd_1208 (by decide +kernel) ⟨Nat.le_of_ble_eq_true rfl, Nat.le_of_ble_eq_true rfl⟩ hK hP hD hS rfl hl.1 rfl (Nat.le_of_ble_eq_true rfl) dX0_fillAfter_128 ⟨Nat.le_of_ble_eq_true rfl, Nat.le_of_ble_eq_true rfl⟩ (fun x_83 f_84 H locs hw hP hD hS => ?_)
                        obtain ⟨rfl, bx_83⟩ := hw
                        refine lv_iadd hx hb dX0_fillAfter_131 ?_
                        refine lv_topi (fun x_86 ex_86 => ?_)
                        have hx_86 : x_86.toInt = x_82.toInt + x_83.toInt := by rw [ex_86, ad_I (by omega) (by omega)]
                        have bx_86 : (0 ≤ x_86.toInt ∧ x_86.toInt ≤ 583) := by constructor <;> omega
                        refine lv_iload hx hb dX0_fillAfter_132 (lv_at hl 1 rfl) ?_
                        refine lv_iload hx hb dX0_fillAfter_134 (lv_at hl 0 rfl) ?_
                        refine tk_SiP (As := [.int 0, .int 0]) (rest := [.int x_86, .ref a_43]) (n := 2) hx hb hml hown hU hN hZ (s_X0_numberOf l (dC, dI) cI cL cZ cR cG cH Z kd L f_71 hG 0 (by decide) 0 (by decide)) wd_1206 wd_1207 wd_37 wd_1208 (by decide +kernel) ⟨Nat.le_of_ble_eq_true rfl, Nat.le_of_ble_eq_true rfl⟩ hK hP hD hS rfl hl.1 rfl (Nat.le_of_ble_eq_true rfl) dX0_fillAfter_136 ⟨Nat.le_of_ble_eq_true rfl, Nat.le_of_ble_eq_true rfl⟩ (fun x_87 f_88 H locs hw hP hD hS => ?_)
                        obtain ⟨rfl, bx_87⟩ := hw
                        obtain ⟨g_91, hfo_90, hbg_91⟩ := un_534 (hG _ ma_43) ka_43
                        refine tk_istP hx hb hK hP hD hS 0 ma_43 hfo_90 rfl (vp_in_iff.mpr (by constructor <;> omega)) dX0_fillAfter_139 (fun H locs hP hD hS => ?_)
                        obtain ⟨g_92, eqg_92⟩ : ∃ y : Nat → Int32, y = upd g_91 (Int32.toNatClampNeg x_86) x_87 := ⟨_, rfl⟩
                        rw [← eqg_92] at hP hD
                        have hbg_92 : ∀ j, 0 ≤ (g_92 j).toInt ∧ (g_92 j).toInt ≤ 72 := by rw [eqg_92]; exact okI_up hbg_91 (by constructor <;> omega) _
                        obtain ⟨f_94, ef_94⟩ : ∃ y : Nat → va_E, y = va_up f_71 a_43 (.inl (cI, 584, .inl g_92)) := ⟨_, rfl⟩
                        have hP : va_P (dC, dI) vwCl (va_pl L f_94) H := by rw [ef_94]; exact hP
                        have hD : va_D (fun q => q ∈ L) (va_pl L f_94) := by rw [ef_94]; exact hD
                        have hG : GI (okc cI cL cZ cR cG cH L kd) kd L f_94 := by rw [ef_94]; exact hG.set a_43 (mk_534 ka_43 ⟨_, rfl, hbg_92⟩)
                        have hfo_95 : f_94 o1 = .inr (7, [.ref a_2, .int v_3, .ref a_4, .ref a_5, .ref a_6, .ref a_7, .int v_8, .ref a_9, .ref a_10, .ref a_11, .ref a_12, .ref a_13, .int v_14, .ref a_15, .ref a_16, .ref a_17]) := by rw [ef_94, up_ne (kd_ne ka_43 ko1 (by decide))]; exact hfo_76
                        have hfo_96 : f_94 o0 = .inr (0, [.ref a_43, .ref a_44, .ref a_45, .int v_46, .ref a_47, .ref a_48, .ref a_49, .int v_50, .ref a_51, .int v_52, .int v_53]) := by rw [ef_94, up_ne (kd_ne ka_43 ko0 (by decide))]; exact hfo_77
                        have hfo_97 : f_94 a_51 = .inl (cI, 2, .inl g_79) := by rw [ef_94, up_ne (kd_ne ka_43 ka_51 (by decide))]; exact hfo_78
                        have hfr0 : ∀ b, kd b ≠ 516 → kd b ≠ 534 → kd b ≠ 538 → f_94 b = f b := fun b q516 q534 q538 => (congrFun ef_94 b).trans ((up_ne (fun e9 => q534 (by rw [e9]; exact ka_43))).trans (hfr0 b q516 q534 q538))
                        have hTc_74 : trel kd 7 508 510 515 4 f_94 o1 := by rw [ef_94]; exact hTc_74.up ka_43 (by decide) (by decide) (by decide) (by decide) (by decide)
                        have hfo_98 : f_94 a_43 = .inl (cI, 584, .inl g_92) := by rw [ef_94]; exact up_self
                        obtain ⟨x_99, ex_99⟩ : ∃ y : Int32, y_36 + 1 = y := ⟨_, rfl⟩
                        have hx_99 : x_99.toInt = y_36.toInt + 1 := by rw [← ex_99, ad_I (by rw [ti_1]; omega) (by rw [ti_1]; omega), ti_1]
                        have bx_99 : (2 ≤ x_99.toInt ∧ x_99.toInt ≤ 9) := by constructor <;> omega
                        refine lv_iinc (v := x_99) (lv' := [(5, .int x_99), (9, .int 0), (8, .int 0), (7, .int x_70), (6, .int 2), (4, .int v_3), (3, .int y_24), (0, .ref o0), (1, .ref o1), (2, .int p2)]) hx hb dX0_fillAfter_140 hl (k := 4) rfl ex_99 (by decide) rfl (fun ls hl => ?_)
                        refine lv_goto (tgt := 27) hx hb dX0_fillAfter_143 (by decide) ?_
                        exact ih_hloop_35 x_99 (by constructor <;> omega) f_94 hG _ _ hP hS hD hfr0 hfo_95 hTc_74 (by (try rw [ti_0]) <;> (try rw [ti_2]) <;> omega) ls (lv_sub hl [0, 5, 6, 7, 8, 9] rfl)
                      · skip
                        rw [Int32.le_iff_toInt_le, ti_1] at c_81
                        exfalso
                        omega
                    · skip
                      rw [Int32.le_iff_toInt_le, ti_0] at c_80
                      refine lv_aload_n hx hb dX0_fillAfter_87 rfl (lv_at hl 5 rfl) ?_
                      refine tk_getP (D := (dC, dI)) (ci := 0) (v := .ref a_51) (C := RX0) (T := TX0) (N := 11) hx hb hU inlX0 hown hK hP mo0 hfo_77 rfl 8 (by decide) (hU _ wd_163) (fun _ h9 => h9) rfl dX0_fillAfter_88 ?_
                      refine lv_iconst (v := 0) hx hb dX0_fillAfter_91 (by decide) ?_
                      refine tk_ildP hx hb hK hP 0 ma_51 hfo_78 rfl (vp_in_nI (n := 0) (by decide) (by decide)) dX0_fillAfter_92 ?_
                      refine lv_topi (fun x_100 ex_100 => ?_)
                      have bx_100 : (0 ≤ x_100.toInt ∧ x_100.toInt ≤ 8) := by rw [ex_100]; exact hbg_79 _
                      refine lv_goto (tgt := 97) hx hb dX0_fillAfter_93 (by decide) ?_
                      refine lv_istore (lv' := [(8, .int x_100), (7, .int x_70), (6, .int 2), (5, .int y_36), (4, .int v_3), (3, .int y_24), (0, .ref o0), (1, .ref o1), (2, .int p2)]) hx hb dX0_fillAfter_97 hl (by decide) rfl (fun ls hl => ?_)
                      refine lv_iload hx hb dX0_fillAfter_99 (lv_at hl 1 rfl) ?_
                      refine lv_iconst (v := 1) hx hb dX0_fillAfter_101 (by decide) ?_
                      refine lv_icmp_le (tgt := 114) hx hb dX0_fillAfter_102 (by decide) (fun c_101 => ?_) (fun c_101 => ?_)
                      · skip
                        rw [Int32.le_iff_toInt_le, ti_1] at c_101
                        refine lv_iconst (v := 0) hx hb dX0_fillAfter_114 (by decide) ?_
                        refine lv_istore (lv' := [(9, .int 0), (8, .int x_100), (7, .int x_70), (6, .int 2), (5, .int y_36), (4, .int v_3), (3, .int y_24), (0, .ref o0), (1, .ref o1), (2, .int p2)]) hx hb dX0_fillAfter_115 hl (by decide) rfl (fun ls hl => ?_)
                        refine lv_aload_n hx hb dX0_fillAfter_117 rfl (lv_at hl 7 rfl) ?_
                        refine tk_getP (D := (dC, dI)) (ci := 0) (v := .ref a_43) (C := RX0) (T := TX0) (N := 11) hx hb hU inlX0 hown hK hP mo0 hfo_77 rfl 0 (by decide) (hU _ wd_157) (fun _ h9 => h9) rfl dX0_fillAfter_118 ?_
                        refine lv_iload_n hx hb dX0_fillAfter_121 rfl (lv_at hl 9 rfl) ?_
                        refine lv_bipush (v := 73) hx hb dX0_fillAfter_122 (by decide) ?_
                        refine lv_imul hx hb dX0_fillAfter_124 ?_
                        refine lv_topi (fun x_102 ex_102 => ?_)
                        have hx_102 : x_102.toInt = p2.toInt * 73 := by rw [ex_102, ml_I (by rw [ti_73]; omega) (by rw [ti_73]; omega), ti_73]
                        have bx_102 : (0 ≤ x_102.toInt ∧ x_102.toInt ≤ 511) := by constructor <;> omega
                        refine lv_iload_n hx hb dX0_fillAfter_125 rfl (lv_at hl 6 rfl) ?_
                        refine lv_iload hx hb dX0_fillAfter_126 (lv_at hl 4 rfl) ?_
                        refine tk_SiP (As := [.int y_24, .int y_36]) (rest := [.int x_102, .ref a_43]) (n := 2) hx hb hml hown hU hN hZ (s_X0_numberOf l (dC, dI) cI cL cZ cR cG cH Z kd L f_71 hG y_24 (by constructor <;> omega) y_36 (by constructor <;> omega)) wd_1206 wd_1207 wd_37 wd_1208 (by decide +kernel) ⟨Nat.le_of_ble_eq_true rfl, Nat.le_of_ble_eq_true rfl⟩ hK hP hD hS rfl hl.1 rfl (Nat.le_of_ble_eq_true rfl) dX0_fillAfter_128 ⟨Nat.le_of_ble_eq_true rfl, Nat.le_of_ble_eq_true rfl⟩ (fun x_103 f_104 H locs hw hP hD hS => ?_)
                        obtain ⟨rfl, bx_103⟩ := hw
                        refine lv_iadd hx hb dX0_fillAfter_131 ?_
                        refine lv_topi (fun x_106 ex_106 => ?_)
                        have hx_106 : x_106.toInt = x_102.toInt + x_103.toInt := by rw [ex_106, ad_I (by omega) (by omega)]
                        have bx_106 : (0 ≤ x_106.toInt ∧ x_106.toInt ≤ 583) := by constructor <;> omega
                        refine lv_iload hx hb dX0_fillAfter_132 (lv_at hl 1 rfl) ?_
                        refine lv_iload hx hb dX0_fillAfter_134 (lv_at hl 0 rfl) ?_
                        refine tk_SiP (As := [.int x_100, .int 0]) (rest := [.int x_106, .ref a_43]) (n := 2) hx hb hml hown hU hN hZ (s_X0_numberOf l (dC, dI) cI cL cZ cR cG cH Z kd L f_71 hG x_100 (by constructor <;> omega) 0 (by decide)) wd_1206 wd_1207 wd_37 wd_1208 (by decide +kernel) ⟨Nat.le_of_ble_eq_true rfl, Nat.le_of_ble_eq_true rfl⟩ hK hP hD hS rfl hl.1 rfl (Nat.le_of_ble_eq_true rfl) dX0_fillAfter_136 ⟨Nat.le_of_ble_eq_true rfl, Nat.le_of_ble_eq_true rfl⟩ (fun x_107 f_108 H locs hw hP hD hS => ?_)
                        obtain ⟨rfl, bx_107⟩ := hw
                        obtain ⟨g_111, hfo_110, hbg_111⟩ := un_534 (hG _ ma_43) ka_43
                        refine tk_istP hx hb hK hP hD hS 0 ma_43 hfo_110 rfl (vp_in_iff.mpr (by constructor <;> omega)) dX0_fillAfter_139 (fun H locs hP hD hS => ?_)
                        obtain ⟨g_112, eqg_112⟩ : ∃ y : Nat → Int32, y = upd g_111 (Int32.toNatClampNeg x_106) x_107 := ⟨_, rfl⟩
                        rw [← eqg_112] at hP hD
                        have hbg_112 : ∀ j, 0 ≤ (g_112 j).toInt ∧ (g_112 j).toInt ≤ 72 := by rw [eqg_112]; exact okI_up hbg_111 (by constructor <;> omega) _
                        obtain ⟨f_114, ef_114⟩ : ∃ y : Nat → va_E, y = va_up f_71 a_43 (.inl (cI, 584, .inl g_112)) := ⟨_, rfl⟩
                        have hP : va_P (dC, dI) vwCl (va_pl L f_114) H := by rw [ef_114]; exact hP
                        have hD : va_D (fun q => q ∈ L) (va_pl L f_114) := by rw [ef_114]; exact hD
                        have hG : GI (okc cI cL cZ cR cG cH L kd) kd L f_114 := by rw [ef_114]; exact hG.set a_43 (mk_534 ka_43 ⟨_, rfl, hbg_112⟩)
                        have hfo_115 : f_114 o1 = .inr (7, [.ref a_2, .int v_3, .ref a_4, .ref a_5, .ref a_6, .ref a_7, .int v_8, .ref a_9, .ref a_10, .ref a_11, .ref a_12, .ref a_13, .int v_14, .ref a_15, .ref a_16, .ref a_17]) := by rw [ef_114, up_ne (kd_ne ka_43 ko1 (by decide))]; exact hfo_76
                        have hfo_116 : f_114 o0 = .inr (0, [.ref a_43, .ref a_44, .ref a_45, .int v_46, .ref a_47, .ref a_48, .ref a_49, .int v_50, .ref a_51, .int v_52, .int v_53]) := by rw [ef_114, up_ne (kd_ne ka_43 ko0 (by decide))]; exact hfo_77
                        have hfo_117 : f_114 a_51 = .inl (cI, 2, .inl g_79) := by rw [ef_114, up_ne (kd_ne ka_43 ka_51 (by decide))]; exact hfo_78
                        have hfr0 : ∀ b, kd b ≠ 516 → kd b ≠ 534 → kd b ≠ 538 → f_114 b = f b := fun b q516 q534 q538 => (congrFun ef_114 b).trans ((up_ne (fun e9 => q534 (by rw [e9]; exact ka_43))).trans (hfr0 b q516 q534 q538))
                        have hTc_74 : trel kd 7 508 510 515 4 f_114 o1 := by rw [ef_114]; exact hTc_74.up ka_43 (by decide) (by decide) (by decide) (by decide) (by decide)
                        have hfo_118 : f_114 a_43 = .inl (cI, 584, .inl g_112) := by rw [ef_114]; exact up_self
                        obtain ⟨x_119, ex_119⟩ : ∃ y : Int32, y_36 + 1 = y := ⟨_, rfl⟩
                        have hx_119 : x_119.toInt = y_36.toInt + 1 := by rw [← ex_119, ad_I (by rw [ti_1]; omega) (by rw [ti_1]; omega), ti_1]
                        have bx_119 : (2 ≤ x_119.toInt ∧ x_119.toInt ≤ 9) := by constructor <;> omega
                        refine lv_iinc (v := x_119) (lv' := [(5, .int x_119), (9, .int 0), (8, .int x_100), (7, .int x_70), (6, .int 2), (4, .int v_3), (3, .int y_24), (0, .ref o0), (1, .ref o1), (2, .int p2)]) hx hb dX0_fillAfter_140 hl (k := 4) rfl ex_119 (by decide) rfl (fun ls hl => ?_)
                        refine lv_goto (tgt := 27) hx hb dX0_fillAfter_143 (by decide) ?_
                        exact ih_hloop_35 x_119 (by constructor <;> omega) f_114 hG _ _ hP hS hD hfr0 hfo_115 hTc_74 (by (try rw [ti_0]) <;> (try rw [ti_2]) <;> omega) ls (lv_sub hl [0, 5, 6, 7, 8, 9] rfl)
                      · skip
                        rw [Int32.le_iff_toInt_le, ti_1] at c_101
                        refine lv_aload_n hx hb dX0_fillAfter_105 rfl (lv_at hl 6 rfl) ?_
                        refine tk_getP (D := (dC, dI)) (ci := 0) (v := .ref a_51) (C := RX0) (T := TX0) (N := 11) hx hb hU inlX0 hown hK hP mo0 hfo_77 rfl 8 (by decide) (hU _ wd_163) (fun _ h9 => h9) rfl dX0_fillAfter_106 ?_
                        refine lv_iconst (v := 1) hx hb dX0_fillAfter_109 (by decide) ?_
                        refine tk_ildP hx hb hK hP 0 ma_51 hfo_78 rfl (vp_in_nI (n := 1) (by decide) (by decide)) dX0_fillAfter_110 ?_
                        refine lv_topi (fun x_120 ex_120 => ?_)
                        have bx_120 : (0 ≤ x_120.toInt ∧ x_120.toInt ≤ 8) := by rw [ex_120]; exact hbg_79 _
                        refine lv_goto (tgt := 115) hx hb dX0_fillAfter_111 (by decide) ?_
                        refine lv_istore (lv' := [(9, .int x_120), (8, .int x_100), (7, .int x_70), (6, .int 2), (5, .int y_36), (4, .int v_3), (3, .int y_24), (0, .ref o0), (1, .ref o1), (2, .int p2)]) hx hb dX0_fillAfter_115 hl (by decide) rfl (fun ls hl => ?_)
                        refine lv_aload_n hx hb dX0_fillAfter_117 rfl (lv_at hl 7 rfl) ?_
                        refine tk_getP (D := (dC, dI)) (ci := 0) (v := .ref a_43) (C := RX0) (T := TX0) (N := 11) hx hb hU inlX0 hown hK hP mo0 hfo_77 rfl 0 (by decide) (hU _ wd_157) (fun _ h9 => h9) rfl dX0_fillAfter_118 ?_
                        refine lv_iload_n hx hb dX0_fillAfter_121 rfl (lv_at hl 9 rfl) ?_
                        refine lv_bipush (v := 73) hx hb dX0_fillAfter_122 (by decide) ?_
                        refine lv_imul hx hb dX0_fillAfter_124 ?_
                        refine lv_topi (fun x_121 ex_121 => ?_)
                        have hx_121 : x_121.toInt = p2.toInt * 73 := by rw [ex_121, ml_I (by rw [ti_73]; omega) (by rw [ti_73]; omega), ti_73]
                        have bx_121 : (0 ≤ x_121.toInt ∧ x_121.toInt ≤ 511) := by constructor <;> omega
                        refine lv_iload_n hx hb dX0_fillAfter_125 rfl (lv_at hl 6 rfl) ?_
                        refine lv_iload hx hb dX0_fillAfter_126 (lv_at hl 4 rfl) ?_
                        refine tk_SiP (As := [.int y_24, .int y_36]) (rest := [.int x_121, .ref a_43]) (n := 2) hx hb hml hown hU hN hZ (s_X0_numberOf l (dC, dI) cI cL cZ cR cG cH Z kd L f_71 hG y_24 (by constructor <;> omega) y_36 (by constructor <;> omega)) wd_1206 wd_1207 wd_37 wd_1208 (by decide +kernel) ⟨Nat.le_of_ble_eq_true rfl, Nat.le_of_ble_eq_true rfl⟩ hK hP hD hS rfl hl.1 rfl (Nat.le_of_ble_eq_true rfl) dX0_fillAfter_128 ⟨Nat.le_of_ble_eq_true rfl, Nat.le_of_ble_eq_true rfl⟩ (fun x_122 f_123 H locs hw hP hD hS => ?_)
                        obtain ⟨rfl, bx_122⟩ := hw
                        refine lv_iadd hx hb dX0_fillAfter_131 ?_
                        refine lv_topi (fun x_125 ex_125 => ?_)
                        have hx_125 : x_125.toInt = x_121.toInt + x_122.toInt := by rw [ex_125, ad_I (by omega) (by omega)]
                        have bx_125 : (0 ≤ x_125.toInt ∧ x_125.toInt ≤ 583) := by constructor <;> omega
                        refine lv_iload hx hb dX0_fillAfter_132 (lv_at hl 1 rfl) ?_
                        refine lv_iload hx hb dX0_fillAfter_134 (lv_at hl 0 rfl) ?_
                        refine tk_SiP (As := [.int x_100, .int x_120]) (rest := [.int x_125, .ref a_43]) (n := 2) hx hb hml hown hU hN hZ (s_X0_numberOf l (dC, dI) cI cL cZ cR cG cH Z kd L f_71 hG x_100 (by constructor <;> omega) x_120 (by constructor <;> omega)) wd_1206 wd_1207 wd_37 wd_1208 (by decide +kernel) ⟨Nat.le_of_ble_eq_true rfl, Nat.le_of_ble_eq_true rfl⟩ hK hP hD hS rfl hl.1 rfl (Nat.le_of_ble_eq_true rfl) dX0_fillAfter_136 ⟨Nat.le_of_ble_eq_true rfl, Nat.le_of_ble_eq_true rfl⟩ (fun x_126 f_127 H locs hw hP hD hS => ?_)
                        obtain ⟨rfl, bx_126⟩ := hw
                        obtain ⟨g_130, hfo_129, hbg_130⟩ := un_534 (hG _ ma_43) ka_43
                        refine tk_istP hx hb hK hP hD hS 0 ma_43 hfo_129 rfl (vp_in_iff.mpr (by constructor <;> omega)) dX0_fillAfter_139 (fun H locs hP hD hS => ?_)
                        obtain ⟨g_131, eqg_131⟩ : ∃ y : Nat → Int32, y = upd g_130 (Int32.toNatClampNeg x_125) x_126 := ⟨_, rfl⟩
                        rw [← eqg_131] at hP hD
                        have hbg_131 : ∀ j, 0 ≤ (g_131 j).toInt ∧ (g_131 j).toInt ≤ 72 := by rw [eqg_131]; exact okI_up hbg_130 (by constructor <;> omega) _
                        obtain ⟨f_133, ef_133⟩ : ∃ y : Nat → va_E, y = va_up f_71 a_43 (.inl (cI, 584, .inl g_131)) := ⟨_, rfl⟩
                        have hP : va_P (dC, dI) vwCl (va_pl L f_133) H := by rw [ef_133]; exact hP
                        have hD : va_D (fun q => q ∈ L) (va_pl L f_133) := by rw [ef_133]; exact hD
                        have hG : GI (okc cI cL cZ cR cG cH L kd) kd L f_133 := by rw [ef_133]; exact hG.set a_43 (mk_534 ka_43 ⟨_, rfl, hbg_131⟩)
                        have hfo_134 : f_133 o1 = .inr (7, [.ref a_2, .int v_3, .ref a_4, .ref a_5, .ref a_6, .ref a_7, .int v_8, .ref a_9, .ref a_10, .ref a_11, .ref a_12, .ref a_13, .int v_14, .ref a_15, .ref a_16, .ref a_17]) := by rw [ef_133, up_ne (kd_ne ka_43 ko1 (by decide))]; exact hfo_76
                        have hfo_135 : f_133 o0 = .inr (0, [.ref a_43, .ref a_44, .ref a_45, .int v_46, .ref a_47, .ref a_48, .ref a_49, .int v_50, .ref a_51, .int v_52, .int v_53]) := by rw [ef_133, up_ne (kd_ne ka_43 ko0 (by decide))]; exact hfo_77
                        have hfo_136 : f_133 a_51 = .inl (cI, 2, .inl g_79) := by rw [ef_133, up_ne (kd_ne ka_43 ka_51 (by decide))]; exact hfo_78
                        have hfr0 : ∀ b, kd b ≠ 516 → kd b ≠ 534 → kd b ≠ 538 → f_133 b = f b := fun b q516 q534 q538 => (congrFun ef_133 b).trans ((up_ne (fun e9 => q534 (by rw [e9]; exact ka_43))).trans (hfr0 b q516 q534 q538))
                        have hTc_74 : trel kd 7 508 510 515 4 f_133 o1 := by rw [ef_133]; exact hTc_74.up ka_43 (by decide) (by decide) (by decide) (by decide) (by decide)
                        have hfo_137 : f_133 a_43 = .inl (cI, 584, .inl g_131) := by rw [ef_133]; exact up_self
                        obtain ⟨x_138, ex_138⟩ : ∃ y : Int32, y_36 + 1 = y := ⟨_, rfl⟩
                        have hx_138 : x_138.toInt = y_36.toInt + 1 := by rw [← ex_138, ad_I (by rw [ti_1]; omega) (by rw [ti_1]; omega), ti_1]
                        have bx_138 : (2 ≤ x_138.toInt ∧ x_138.toInt ≤ 9) := by constructor <;> omega
                        refine lv_iinc (v := x_138) (lv' := [(5, .int x_138), (9, .int x_120), (8, .int x_100), (7, .int x_70), (6, .int 2), (4, .int v_3), (3, .int y_24), (0, .ref o0), (1, .ref o1), (2, .int p2)]) hx hb dX0_fillAfter_140 hl (k := 4) rfl ex_138 (by decide) rfl (fun ls hl => ?_)
                        refine lv_goto (tgt := 27) hx hb dX0_fillAfter_143 (by decide) ?_
                        exact ih_hloop_35 x_138 (by constructor <;> omega) f_133 hG _ _ hP hS hD hfr0 hfo_134 hTc_74 (by (try rw [ti_2]) <;> omega) ls (lv_sub hl [0, 5, 6, 7, 8, 9] rfl)
                  · skip
                    rw [← Int32.toInt_inj, ti_0] at c_69
                    refine lv_iconst (v := 1) hx hb dX0_fillAfter_62 (by decide) ?_
                    refine lv_goto (tgt := 67) hx hb dX0_fillAfter_63 (by decide) ?_
                    refine lv_istore (lv' := [(6, .int 1), (5, .int y_36), (4, .int v_3), (3, .int y_24), (0, .ref o0), (1, .ref o1), (2, .int p2)]) hx hb dX0_fillAfter_67 hl (by decide) rfl (fun ls hl => ?_)
                    have hwf : ∀ j : Nat, (j : Int) < 1 → 1 ≤ (g_62 j).toInt ∧ (g_62 j).toInt ≤ v_3.toInt := by intro j hj; rcases (show j = 0 ∨ j = 1 by omega) with rfl | rfl; (· rw [eqg_62, eqg_56, w2_0]; constructor <;> omega); (· rw [eqg_62, eqg_56, w2_1]; exfalso; omega)
                    refine lv_aload_n hx hb dX0_fillAfter_69 rfl (lv_at hl 5 rfl) ?_
                    refine lv_iload_n hx hb dX0_fillAfter_70 rfl (lv_at hl 6 rfl) ?_
                    refine lv_aload_n hx hb dX0_fillAfter_71 rfl (lv_at hl 4 rfl) ?_
                    refine tk_getP (D := (dC, dI)) (ci := 0) (v := .ref a_51) (C := RX0) (T := TX0) (N := 11) hx hb hU inlX0 hown hK hP mo0 hfo_66 rfl 8 (by decide) (hU _ wd_163) (fun _ h9 => h9) rfl dX0_fillAfter_72 ?_
                    refine lv_iload hx hb dX0_fillAfter_75 (lv_at hl 0 rfl) ?_
                    refine tk_ViP (As := [.int p2, .ref a_51, .int 1]) (rest := []) (n := 3) hx hb hml hown hU hN hZ (s_X7_ageBy_k7_a538_t l (dC, dI) cI cL cZ cR cG cH Z kd L f_64 hG o1 mo1 ko1 p2 (by constructor <;> omega) a_51 ma_51 ka_51 1 (by decide) hT0 (fun n9 g9 h1 h2 j hj => by rw [hfo_65] at h1; obtain rfl := Option.some.inj h1; rw [hfo_67] at h2; cases h2; (try rw [ti_1] at hj); have h8 := hwf j (by omega); constructor <;> omega) (fun c9 h9 => by rw [hfo_65] at h9; obtain rfl := Option.some.inj h9; omega)) wd_1205 wd_1104 wd_1105 wd_28 wd_1106 (by decide +kernel) ⟨Nat.le_of_ble_eq_true rfl, Nat.le_of_ble_eq_true rfl⟩ hK hP hD hS mo1 hfo_65 7 rfl rfl rfl hl.1 rfl (Nat.le_of_ble_eq_true rfl) dX0_fillAfter_77 ⟨Nat.le_of_ble_eq_true rfl, Nat.le_of_ble_eq_true rfl⟩ (fun x_139 f_140 H locs hw hP hD hS => ?_)
                    obtain ⟨hG, bx_139, relx_139, hkc_141, hxp_142, hTc_143⟩ := hw
                    have hfo_145 : f_140 o1 = .inr (7, [.ref a_2, .int v_3, .ref a_4, .ref a_5, .ref a_6, .ref a_7, .int v_8, .ref a_9, .ref a_10, .ref a_11, .ref a_12, .ref a_13, .int v_14, .ref a_15, .ref a_16, .ref a_17]) := by rw [hkc_141 o1 (by rw [ko1]; decide) (by rw [ko1]; decide)]; exact hfo_65
                    have hfo_146 : f_140 o0 = .inr (0, [.ref a_43, .ref a_44, .ref a_45, .int v_46, .ref a_47, .ref a_48, .ref a_49, .int v_50, .ref a_51, .int v_52, .int v_53]) := by rw [hkc_141 o0 (by rw [ko0]; decide) (by rw [ko0]; decide)]; exact hfo_66
                    have hfr0 : ∀ b, kd b ≠ 516 → kd b ≠ 534 → kd b ≠ 538 → f_140 b = f b := fun b q516 q534 q538 => (hkc_141 b q516 q538).trans (hfr0 b q516 q534 q538)
                    have hT0 : trel kd 7 508 510 515 4 f_140 o1 := hT0.keep (fun b q => hkc_141 b (by rw [q]; decide) (by rw [q]; decide)) (fun b q => hkc_141 b (by rw [q]; decide) (by rw [q]; decide)) (fun b q => hkc_141 b (by rw [q]; decide) (by rw [q]; decide)) (fun b q => hkc_141 b (by rw [q]; decide) (by rw [q]; decide)) (fun b q => congrArg (fun x => fldI x 1) (hkc_141 b (by rw [q]; decide) (by rw [q]; decide)))
                    try rw [ti_1] at relx_139
                    obtain ⟨g_148, hfo_147, hbg_148⟩ := un_538 (hG _ ma_51) ka_51
                    have hagx_139 := hxp_142 v_3 g_148 (by rw [← hkc_141 o1 (by rw [ko1]; decide) (by rw [ko1]; decide), hfo_145]; rfl) hfo_147
                    refine lv_istore (lv' := [(7, .int x_139), (6, .int 1), (5, .int y_36), (4, .int v_3), (3, .int y_24), (0, .ref o0), (1, .ref o1), (2, .int p2)]) hx hb dX0_fillAfter_80 hl (by decide) rfl (fun ls hl => ?_)
                    refine lv_iload hx hb dX0_fillAfter_82 (lv_at hl 0 rfl) ?_
                    refine lv_if_le (tgt := 96) hx hb dX0_fillAfter_84 (by decide) (fun c_149 => ?_) (fun c_149 => ?_)
                    · skip
                      rw [Int32.le_iff_toInt_le, ti_0] at c_149
                      refine lv_iconst (v := 0) hx hb dX0_fillAfter_96 (by decide) ?_
                      refine lv_istore (lv' := [(8, .int 0), (7, .int x_139), (6, .int 1), (5, .int y_36), (4, .int v_3), (3, .int y_24), (0, .ref o0), (1, .ref o1), (2, .int p2)]) hx hb dX0_fillAfter_97 hl (by decide) rfl (fun ls hl => ?_)
                      refine lv_iload hx hb dX0_fillAfter_99 (lv_at hl 1 rfl) ?_
                      refine lv_iconst (v := 1) hx hb dX0_fillAfter_101 (by decide) ?_
                      refine lv_icmp_le (tgt := 114) hx hb dX0_fillAfter_102 (by decide) (fun c_150 => ?_) (fun c_150 => ?_)
                      · skip
                        rw [Int32.le_iff_toInt_le, ti_1] at c_150
                        refine lv_iconst (v := 0) hx hb dX0_fillAfter_114 (by decide) ?_
                        refine lv_istore (lv' := [(9, .int 0), (8, .int 0), (7, .int x_139), (6, .int 1), (5, .int y_36), (4, .int v_3), (3, .int y_24), (0, .ref o0), (1, .ref o1), (2, .int p2)]) hx hb dX0_fillAfter_115 hl (by decide) rfl (fun ls hl => ?_)
                        refine lv_aload_n hx hb dX0_fillAfter_117 rfl (lv_at hl 7 rfl) ?_
                        refine tk_getP (D := (dC, dI)) (ci := 0) (v := .ref a_43) (C := RX0) (T := TX0) (N := 11) hx hb hU inlX0 hown hK hP mo0 hfo_146 rfl 0 (by decide) (hU _ wd_157) (fun _ h9 => h9) rfl dX0_fillAfter_118 ?_
                        refine lv_iload_n hx hb dX0_fillAfter_121 rfl (lv_at hl 9 rfl) ?_
                        refine lv_bipush (v := 73) hx hb dX0_fillAfter_122 (by decide) ?_
                        refine lv_imul hx hb dX0_fillAfter_124 ?_
                        refine lv_topi (fun x_151 ex_151 => ?_)
                        have hx_151 : x_151.toInt = p2.toInt * 73 := by rw [ex_151, ml_I (by rw [ti_73]; omega) (by rw [ti_73]; omega), ti_73]
                        have bx_151 : (0 ≤ x_151.toInt ∧ x_151.toInt ≤ 511) := by constructor <;> omega
                        refine lv_iload_n hx hb dX0_fillAfter_125 rfl (lv_at hl 6 rfl) ?_
                        refine lv_iload hx hb dX0_fillAfter_126 (lv_at hl 4 rfl) ?_
                        refine tk_SiP (As := [.int y_24, .int y_36]) (rest := [.int x_151, .ref a_43]) (n := 2) hx hb hml hown hU hN hZ (s_X0_numberOf l (dC, dI) cI cL cZ cR cG cH Z kd L f_140 hG y_24 (by constructor <;> omega) y_36 (by constructor <;> omega)) wd_1206 wd_1207 wd_37 wd_1208 (by decide +kernel) ⟨Nat.le_of_ble_eq_true rfl, Nat.le_of_ble_eq_true rfl⟩ hK hP hD hS rfl hl.1 rfl (Nat.le_of_ble_eq_true rfl) dX0_fillAfter_128 ⟨Nat.le_of_ble_eq_true rfl, Nat.le_of_ble_eq_true rfl⟩ (fun x_152 f_153 H locs hw hP hD hS => ?_)
                        obtain ⟨rfl, bx_152⟩ := hw
                        refine lv_iadd hx hb dX0_fillAfter_131 ?_
                        refine lv_topi (fun x_155 ex_155 => ?_)
                        have hx_155 : x_155.toInt = x_151.toInt + x_152.toInt := by rw [ex_155, ad_I (by omega) (by omega)]
                        have bx_155 : (0 ≤ x_155.toInt ∧ x_155.toInt ≤ 583) := by constructor <;> omega
                        refine lv_iload hx hb dX0_fillAfter_132 (lv_at hl 1 rfl) ?_
                        refine lv_iload hx hb dX0_fillAfter_134 (lv_at hl 0 rfl) ?_
                        refine tk_SiP (As := [.int 0, .int 0]) (rest := [.int x_155, .ref a_43]) (n := 2) hx hb hml hown hU hN hZ (s_X0_numberOf l (dC, dI) cI cL cZ cR cG cH Z kd L f_140 hG 0 (by decide) 0 (by decide)) wd_1206 wd_1207 wd_37 wd_1208 (by decide +kernel) ⟨Nat.le_of_ble_eq_true rfl, Nat.le_of_ble_eq_true rfl⟩ hK hP hD hS rfl hl.1 rfl (Nat.le_of_ble_eq_true rfl) dX0_fillAfter_136 ⟨Nat.le_of_ble_eq_true rfl, Nat.le_of_ble_eq_true rfl⟩ (fun x_156 f_157 H locs hw hP hD hS => ?_)
                        obtain ⟨rfl, bx_156⟩ := hw
                        obtain ⟨g_160, hfo_159, hbg_160⟩ := un_534 (hG _ ma_43) ka_43
                        refine tk_istP hx hb hK hP hD hS 0 ma_43 hfo_159 rfl (vp_in_iff.mpr (by constructor <;> omega)) dX0_fillAfter_139 (fun H locs hP hD hS => ?_)
                        obtain ⟨g_161, eqg_161⟩ : ∃ y : Nat → Int32, y = upd g_160 (Int32.toNatClampNeg x_155) x_156 := ⟨_, rfl⟩
                        rw [← eqg_161] at hP hD
                        have hbg_161 : ∀ j, 0 ≤ (g_161 j).toInt ∧ (g_161 j).toInt ≤ 72 := by rw [eqg_161]; exact okI_up hbg_160 (by constructor <;> omega) _
                        obtain ⟨f_163, ef_163⟩ : ∃ y : Nat → va_E, y = va_up f_140 a_43 (.inl (cI, 584, .inl g_161)) := ⟨_, rfl⟩
                        have hP : va_P (dC, dI) vwCl (va_pl L f_163) H := by rw [ef_163]; exact hP
                        have hD : va_D (fun q => q ∈ L) (va_pl L f_163) := by rw [ef_163]; exact hD
                        have hG : GI (okc cI cL cZ cR cG cH L kd) kd L f_163 := by rw [ef_163]; exact hG.set a_43 (mk_534 ka_43 ⟨_, rfl, hbg_161⟩)
                        have hfo_164 : f_163 o1 = .inr (7, [.ref a_2, .int v_3, .ref a_4, .ref a_5, .ref a_6, .ref a_7, .int v_8, .ref a_9, .ref a_10, .ref a_11, .ref a_12, .ref a_13, .int v_14, .ref a_15, .ref a_16, .ref a_17]) := by rw [ef_163, up_ne (kd_ne ka_43 ko1 (by decide))]; exact hfo_145
                        have hfo_165 : f_163 o0 = .inr (0, [.ref a_43, .ref a_44, .ref a_45, .int v_46, .ref a_47, .ref a_48, .ref a_49, .int v_50, .ref a_51, .int v_52, .int v_53]) := by rw [ef_163, up_ne (kd_ne ka_43 ko0 (by decide))]; exact hfo_146
                        have hfo_166 : f_163 a_51 = .inl (cI, 2, .inl g_148) := by rw [ef_163, up_ne (kd_ne ka_43 ka_51 (by decide))]; exact hfo_147
                        have hfr0 : ∀ b, kd b ≠ 516 → kd b ≠ 534 → kd b ≠ 538 → f_163 b = f b := fun b q516 q534 q538 => (congrFun ef_163 b).trans ((up_ne (fun e9 => q534 (by rw [e9]; exact ka_43))).trans (hfr0 b q516 q534 q538))
                        have hTc_143 : trel kd 7 508 510 515 4 f_163 o1 := by rw [ef_163]; exact hTc_143.up ka_43 (by decide) (by decide) (by decide) (by decide) (by decide)
                        have hfo_167 : f_163 a_43 = .inl (cI, 584, .inl g_161) := by rw [ef_163]; exact up_self
                        obtain ⟨x_168, ex_168⟩ : ∃ y : Int32, y_36 + 1 = y := ⟨_, rfl⟩
                        have hx_168 : x_168.toInt = y_36.toInt + 1 := by rw [← ex_168, ad_I (by rw [ti_1]; omega) (by rw [ti_1]; omega), ti_1]
                        have bx_168 : (1 ≤ x_168.toInt ∧ x_168.toInt ≤ 1) := by constructor <;> omega
                        refine lv_iinc (v := x_168) (lv' := [(5, .int x_168), (9, .int 0), (8, .int 0), (7, .int x_139), (6, .int 1), (4, .int v_3), (3, .int y_24), (0, .ref o0), (1, .ref o1), (2, .int p2)]) hx hb dX0_fillAfter_140 hl (k := 4) rfl ex_168 (by decide) rfl (fun ls hl => ?_)
                        refine lv_goto (tgt := 27) hx hb dX0_fillAfter_143 (by decide) ?_
                        exact ih_hloop_35 x_168 (by constructor <;> omega) f_163 hG _ _ hP hS hD hfr0 hfo_164 hTc_143 (by (try rw [ti_0]) <;> (try rw [ti_1]) <;> omega) ls (lv_sub hl [0, 5, 6, 7, 8, 9] rfl)
                      · skip
                        rw [Int32.le_iff_toInt_le, ti_1] at c_150
                        exfalso
                        omega
                    · skip
                      rw [Int32.le_iff_toInt_le, ti_0] at c_149
                      refine lv_aload_n hx hb dX0_fillAfter_87 rfl (lv_at hl 5 rfl) ?_
                      refine tk_getP (D := (dC, dI)) (ci := 0) (v := .ref a_51) (C := RX0) (T := TX0) (N := 11) hx hb hU inlX0 hown hK hP mo0 hfo_146 rfl 8 (by decide) (hU _ wd_163) (fun _ h9 => h9) rfl dX0_fillAfter_88 ?_
                      refine lv_iconst (v := 0) hx hb dX0_fillAfter_91 (by decide) ?_
                      refine tk_ildP hx hb hK hP 0 ma_51 hfo_147 rfl (vp_in_nI (n := 0) (by decide) (by decide)) dX0_fillAfter_92 ?_
                      refine lv_topi (fun x_169 ex_169 => ?_)
                      have bx_169 : (0 ≤ x_169.toInt ∧ x_169.toInt ≤ 8) := by rw [ex_169]; exact hbg_148 _
                      refine lv_goto (tgt := 97) hx hb dX0_fillAfter_93 (by decide) ?_
                      refine lv_istore (lv' := [(8, .int x_169), (7, .int x_139), (6, .int 1), (5, .int y_36), (4, .int v_3), (3, .int y_24), (0, .ref o0), (1, .ref o1), (2, .int p2)]) hx hb dX0_fillAfter_97 hl (by decide) rfl (fun ls hl => ?_)
                      refine lv_iload hx hb dX0_fillAfter_99 (lv_at hl 1 rfl) ?_
                      refine lv_iconst (v := 1) hx hb dX0_fillAfter_101 (by decide) ?_
                      refine lv_icmp_le (tgt := 114) hx hb dX0_fillAfter_102 (by decide) (fun c_170 => ?_) (fun c_170 => ?_)
                      · skip
                        rw [Int32.le_iff_toInt_le, ti_1] at c_170
                        refine lv_iconst (v := 0) hx hb dX0_fillAfter_114 (by decide) ?_
                        refine lv_istore (lv' := [(9, .int 0), (8, .int x_169), (7, .int x_139), (6, .int 1), (5, .int y_36), (4, .int v_3), (3, .int y_24), (0, .ref o0), (1, .ref o1), (2, .int p2)]) hx hb dX0_fillAfter_115 hl (by decide) rfl (fun ls hl => ?_)
                        refine lv_aload_n hx hb dX0_fillAfter_117 rfl (lv_at hl 7 rfl) ?_
                        refine tk_getP (D := (dC, dI)) (ci := 0) (v := .ref a_43) (C := RX0) (T := TX0) (N := 11) hx hb hU inlX0 hown hK hP mo0 hfo_146 rfl 0 (by decide) (hU _ wd_157) (fun _ h9 => h9) rfl dX0_fillAfter_118 ?_
                        refine lv_iload_n hx hb dX0_fillAfter_121 rfl (lv_at hl 9 rfl) ?_
                        refine lv_bipush (v := 73) hx hb dX0_fillAfter_122 (by decide) ?_
                        refine lv_imul hx hb dX0_fillAfter_124 ?_
                        refine lv_topi (fun x_171 ex_171 => ?_)
                        have hx_171 : x_171.toInt = p2.toInt * 73 := by rw [ex_171, ml_I (by rw [ti_73]; omega) (by rw [ti_73]; omega), ti_73]
                        have bx_171 : (0 ≤ x_171.toInt ∧ x_171.toInt ≤ 511) := by constructor <;> omega
                        refine lv_iload_n hx hb dX0_fillAfter_125 rfl (lv_at hl 6 rfl) ?_
                        refine lv_iload hx hb dX0_fillAfter_126 (lv_at hl 4 rfl) ?_
                        refine tk_SiP (As := [.int y_24, .int y_36]) (rest := [.int x_171, .ref a_43]) (n := 2) hx hb hml hown hU hN hZ (s_X0_numberOf l (dC, dI) cI cL cZ cR cG cH Z kd L f_140 hG y_24 (by constructor <;> omega) y_36 (by constructor <;> omega)) wd_1206 wd_1207 wd_37 wd_1208 (by decide +kernel) ⟨Nat.le_of_ble_eq_true rfl, Nat.le_of_ble_eq_true rfl⟩ hK hP hD hS rfl hl.1 rfl (Nat.le_of_ble_eq_true rfl) dX0_fillAfter_128 ⟨Nat.le_of_ble_eq_true rfl, Nat.le_of_ble_eq_true rfl⟩ (fun x_172 f_173 H locs hw hP hD hS => ?_)
                        obtain ⟨rfl, bx_172⟩ := hw
                        refine lv_iadd hx hb dX0_fillAfter_131 ?_
                        refine lv_topi (fun x_175 ex_175 => ?_)
                        have hx_175 : x_175.toInt = x_171.toInt + x_172.toInt := by rw [ex_175, ad_I (by omega) (by omega)]
                        have bx_175 : (0 ≤ x_175.toInt ∧ x_175.toInt ≤ 583) := by constructor <;> omega
                        refine lv_iload hx hb dX0_fillAfter_132 (lv_at hl 1 rfl) ?_
                        refine lv_iload hx hb dX0_fillAfter_134 (lv_at hl 0 rfl) ?_
                        refine tk_SiP (As := [.int x_169, .int 0]) (rest := [.int x_175, .ref a_43]) (n := 2) hx hb hml hown hU hN hZ (s_X0_numberOf l (dC, dI) cI cL cZ cR cG cH Z kd L f_140 hG x_169 (by constructor <;> omega) 0 (by decide)) wd_1206 wd_1207 wd_37 wd_1208 (by decide +kernel) ⟨Nat.le_of_ble_eq_true rfl, Nat.le_of_ble_eq_true rfl⟩ hK hP hD hS rfl hl.1 rfl (Nat.le_of_ble_eq_true rfl) dX0_fillAfter_136 ⟨Nat.le_of_ble_eq_true rfl, Nat.le_of_ble_eq_true rfl⟩ (fun x_176 f_177 H locs hw hP hD hS => ?_)
                        obtain ⟨rfl, bx_176⟩ := hw
                        obtain ⟨g_180, hfo_179, hbg_180⟩ := un_534 (hG _ ma_43) ka_43
                        refine tk_istP hx hb hK hP hD hS 0 ma_43 hfo_179 rfl (vp_in_iff.mpr (by constructor <;> omega)) dX0_fillAfter_139 (fun H locs hP hD hS => ?_)
                        obtain ⟨g_181, eqg_181⟩ : ∃ y : Nat → Int32, y = upd g_180 (Int32.toNatClampNeg x_175) x_176 := ⟨_, rfl⟩
                        rw [← eqg_181] at hP hD
                        have hbg_181 : ∀ j, 0 ≤ (g_181 j).toInt ∧ (g_181 j).toInt ≤ 72 := by rw [eqg_181]; exact okI_up hbg_180 (by constructor <;> omega) _
                        obtain ⟨f_183, ef_183⟩ : ∃ y : Nat → va_E, y = va_up f_140 a_43 (.inl (cI, 584, .inl g_181)) := ⟨_, rfl⟩
                        have hP : va_P (dC, dI) vwCl (va_pl L f_183) H := by rw [ef_183]; exact hP
                        have hD : va_D (fun q => q ∈ L) (va_pl L f_183) := by rw [ef_183]; exact hD
                        have hG : GI (okc cI cL cZ cR cG cH L kd) kd L f_183 := by rw [ef_183]; exact hG.set a_43 (mk_534 ka_43 ⟨_, rfl, hbg_181⟩)
                        have hfo_184 : f_183 o1 = .inr (7, [.ref a_2, .int v_3, .ref a_4, .ref a_5, .ref a_6, .ref a_7, .int v_8, .ref a_9, .ref a_10, .ref a_11, .ref a_12, .ref a_13, .int v_14, .ref a_15, .ref a_16, .ref a_17]) := by rw [ef_183, up_ne (kd_ne ka_43 ko1 (by decide))]; exact hfo_145
                        have hfo_185 : f_183 o0 = .inr (0, [.ref a_43, .ref a_44, .ref a_45, .int v_46, .ref a_47, .ref a_48, .ref a_49, .int v_50, .ref a_51, .int v_52, .int v_53]) := by rw [ef_183, up_ne (kd_ne ka_43 ko0 (by decide))]; exact hfo_146
                        have hfo_186 : f_183 a_51 = .inl (cI, 2, .inl g_148) := by rw [ef_183, up_ne (kd_ne ka_43 ka_51 (by decide))]; exact hfo_147
                        have hfr0 : ∀ b, kd b ≠ 516 → kd b ≠ 534 → kd b ≠ 538 → f_183 b = f b := fun b q516 q534 q538 => (congrFun ef_183 b).trans ((up_ne (fun e9 => q534 (by rw [e9]; exact ka_43))).trans (hfr0 b q516 q534 q538))
                        have hTc_143 : trel kd 7 508 510 515 4 f_183 o1 := by rw [ef_183]; exact hTc_143.up ka_43 (by decide) (by decide) (by decide) (by decide) (by decide)
                        have hfo_187 : f_183 a_43 = .inl (cI, 584, .inl g_181) := by rw [ef_183]; exact up_self
                        obtain ⟨x_188, ex_188⟩ : ∃ y : Int32, y_36 + 1 = y := ⟨_, rfl⟩
                        have hx_188 : x_188.toInt = y_36.toInt + 1 := by rw [← ex_188, ad_I (by rw [ti_1]; omega) (by rw [ti_1]; omega), ti_1]
                        have bx_188 : (1 ≤ x_188.toInt ∧ x_188.toInt ≤ 1) := by constructor <;> omega
                        refine lv_iinc (v := x_188) (lv' := [(5, .int x_188), (9, .int 0), (8, .int x_169), (7, .int x_139), (6, .int 1), (4, .int v_3), (3, .int y_24), (0, .ref o0), (1, .ref o1), (2, .int p2)]) hx hb dX0_fillAfter_140 hl (k := 4) rfl ex_188 (by decide) rfl (fun ls hl => ?_)
                        refine lv_goto (tgt := 27) hx hb dX0_fillAfter_143 (by decide) ?_
                        exact ih_hloop_35 x_188 (by constructor <;> omega) f_183 hG _ _ hP hS hD hfr0 hfo_184 hTc_143 (by (try rw [ti_0]) <;> (try rw [ti_1]) <;> omega) ls (lv_sub hl [0, 5, 6, 7, 8, 9] rfl)
                      · skip
                        rw [Int32.le_iff_toInt_le, ti_1] at c_170
                        refine lv_aload_n hx hb dX0_fillAfter_105 rfl (lv_at hl 6 rfl) ?_
                        refine tk_getP (D := (dC, dI)) (ci := 0) (v := .ref a_51) (C := RX0) (T := TX0) (N := 11) hx hb hU inlX0 hown hK hP mo0 hfo_146 rfl 8 (by decide) (hU _ wd_163) (fun _ h9 => h9) rfl dX0_fillAfter_106 ?_
                        refine lv_iconst (v := 1) hx hb dX0_fillAfter_109 (by decide) ?_
                        refine tk_ildP hx hb hK hP 0 ma_51 hfo_147 rfl (vp_in_nI (n := 1) (by decide) (by decide)) dX0_fillAfter_110 ?_
                        refine lv_topi (fun x_189 ex_189 => ?_)
                        have bx_189 : (0 ≤ x_189.toInt ∧ x_189.toInt ≤ 8) := by rw [ex_189]; exact hbg_148 _
                        refine lv_goto (tgt := 115) hx hb dX0_fillAfter_111 (by decide) ?_
                        refine lv_istore (lv' := [(9, .int x_189), (8, .int x_169), (7, .int x_139), (6, .int 1), (5, .int y_36), (4, .int v_3), (3, .int y_24), (0, .ref o0), (1, .ref o1), (2, .int p2)]) hx hb dX0_fillAfter_115 hl (by decide) rfl (fun ls hl => ?_)
                        refine lv_aload_n hx hb dX0_fillAfter_117 rfl (lv_at hl 7 rfl) ?_
                        refine tk_getP (D := (dC, dI)) (ci := 0) (v := .ref a_43) (C := RX0) (T := TX0) (N := 11) hx hb hU inlX0 hown hK hP mo0 hfo_146 rfl 0 (by decide) (hU _ wd_157) (fun _ h9 => h9) rfl dX0_fillAfter_118 ?_
                        refine lv_iload_n hx hb dX0_fillAfter_121 rfl (lv_at hl 9 rfl) ?_
                        refine lv_bipush (v := 73) hx hb dX0_fillAfter_122 (by decide) ?_
                        refine lv_imul hx hb dX0_fillAfter_124 ?_
                        refine lv_topi (fun x_190 ex_190 => ?_)
                        have hx_190 : x_190.toInt = p2.toInt * 73 := by rw [ex_190, ml_I (by rw [ti_73]; omega) (by rw [ti_73]; omega), ti_73]
                        have bx_190 : (0 ≤ x_190.toInt ∧ x_190.toInt ≤ 511) := by constructor <;> omega
                        refine lv_iload_n hx hb dX0_fillAfter_125 rfl (lv_at hl 6 rfl) ?_
                        refine lv_iload hx hb dX0_fillAfter_126 (lv_at hl 4 rfl) ?_
                        refine tk_SiP (As := [.int y_24, .int y_36]) (rest := [.int x_190, .ref a_43]) (n := 2) hx hb hml hown hU hN hZ (s_X0_numberOf l (dC, dI) cI cL cZ cR cG cH Z kd L f_140 hG y_24 (by constructor <;> omega) y_36 (by constructor <;> omega)) wd_1206 wd_1207 wd_37 wd_1208 (by decide +kernel) ⟨Nat.le_of_ble_eq_true rfl, Nat.le_of_ble_eq_true rfl⟩ hK hP hD hS rfl hl.1 rfl (Nat.le_of_ble_eq_true rfl) dX0_fillAfter_128 ⟨Nat.le_of_ble_eq_true rfl, Nat.le_of_ble_eq_true rfl⟩ (fun x_191 f_192 H locs hw hP hD hS => ?_)
                        obtain ⟨rfl, bx_191⟩ := hw
                        refine lv_iadd hx hb dX0_fillAfter_131 ?_
                        refine lv_topi (fun x_194 ex_194 => ?_)
                        have hx_194 : x_194.toInt = x_190.toInt + x_191.toInt := by rw [ex_194, ad_I (by omega) (by omega)]
                        have bx_194 : (0 ≤ x_194.toInt ∧ x_194.toInt ≤ 583) := by constructor <;> omega
                        refine lv_iload hx hb dX0_fillAfter_132 (lv_at hl 1 rfl) ?_
                        refine lv_iload hx hb dX0_fillAfter_134 (lv_at hl 0 rfl) ?_
                        refine tk_SiP (As := [.int x_169, .int x_189]) (rest := [.int x_194, .ref a_43]) (n := 2) hx hb hml hown hU hN hZ (s_X0_numberOf l (dC, dI) cI cL cZ cR cG cH Z kd L f_140 hG x_169 (by constructor <;> omega) x_189 (by constructor <;> omega)) wd_1206 wd_1207 wd_37 wd_1208 (by decide +kernel) ⟨Nat.le_of_ble_eq_true rfl, Nat.le_of_ble_eq_true rfl⟩ hK hP hD hS rfl hl.1 rfl (Nat.le_of_ble_eq_true rfl) dX0_fillAfter_136 ⟨Nat.le_of_ble_eq_true rfl, Nat.le_of_ble_eq_true rfl⟩ (fun x_195 f_196 H locs hw hP hD hS => ?_)
                        obtain ⟨rfl, bx_195⟩ := hw
                        obtain ⟨g_199, hfo_198, hbg_199⟩ := un_534 (hG _ ma_43) ka_43
                        refine tk_istP hx hb hK hP hD hS 0 ma_43 hfo_198 rfl (vp_in_iff.mpr (by constructor <;> omega)) dX0_fillAfter_139 (fun H locs hP hD hS => ?_)
                        obtain ⟨g_200, eqg_200⟩ : ∃ y : Nat → Int32, y = upd g_199 (Int32.toNatClampNeg x_194) x_195 := ⟨_, rfl⟩
                        rw [← eqg_200] at hP hD
                        have hbg_200 : ∀ j, 0 ≤ (g_200 j).toInt ∧ (g_200 j).toInt ≤ 72 := by rw [eqg_200]; exact okI_up hbg_199 (by constructor <;> omega) _
                        obtain ⟨f_202, ef_202⟩ : ∃ y : Nat → va_E, y = va_up f_140 a_43 (.inl (cI, 584, .inl g_200)) := ⟨_, rfl⟩
                        have hP : va_P (dC, dI) vwCl (va_pl L f_202) H := by rw [ef_202]; exact hP
                        have hD : va_D (fun q => q ∈ L) (va_pl L f_202) := by rw [ef_202]; exact hD
                        have hG : GI (okc cI cL cZ cR cG cH L kd) kd L f_202 := by rw [ef_202]; exact hG.set a_43 (mk_534 ka_43 ⟨_, rfl, hbg_200⟩)
                        have hfo_203 : f_202 o1 = .inr (7, [.ref a_2, .int v_3, .ref a_4, .ref a_5, .ref a_6, .ref a_7, .int v_8, .ref a_9, .ref a_10, .ref a_11, .ref a_12, .ref a_13, .int v_14, .ref a_15, .ref a_16, .ref a_17]) := by rw [ef_202, up_ne (kd_ne ka_43 ko1 (by decide))]; exact hfo_145
                        have hfo_204 : f_202 o0 = .inr (0, [.ref a_43, .ref a_44, .ref a_45, .int v_46, .ref a_47, .ref a_48, .ref a_49, .int v_50, .ref a_51, .int v_52, .int v_53]) := by rw [ef_202, up_ne (kd_ne ka_43 ko0 (by decide))]; exact hfo_146
                        have hfo_205 : f_202 a_51 = .inl (cI, 2, .inl g_148) := by rw [ef_202, up_ne (kd_ne ka_43 ka_51 (by decide))]; exact hfo_147
                        have hfr0 : ∀ b, kd b ≠ 516 → kd b ≠ 534 → kd b ≠ 538 → f_202 b = f b := fun b q516 q534 q538 => (congrFun ef_202 b).trans ((up_ne (fun e9 => q534 (by rw [e9]; exact ka_43))).trans (hfr0 b q516 q534 q538))
                        have hTc_143 : trel kd 7 508 510 515 4 f_202 o1 := by rw [ef_202]; exact hTc_143.up ka_43 (by decide) (by decide) (by decide) (by decide) (by decide)
                        have hfo_206 : f_202 a_43 = .inl (cI, 584, .inl g_200) := by rw [ef_202]; exact up_self
                        obtain ⟨x_207, ex_207⟩ : ∃ y : Int32, y_36 + 1 = y := ⟨_, rfl⟩
                        have hx_207 : x_207.toInt = y_36.toInt + 1 := by rw [← ex_207, ad_I (by rw [ti_1]; omega) (by rw [ti_1]; omega), ti_1]
                        have bx_207 : (1 ≤ x_207.toInt ∧ x_207.toInt ≤ 1) := by constructor <;> omega
                        refine lv_iinc (v := x_207) (lv' := [(5, .int x_207), (9, .int x_189), (8, .int x_169), (7, .int x_139), (6, .int 1), (4, .int v_3), (3, .int y_24), (0, .ref o0), (1, .ref o1), (2, .int p2)]) hx hb dX0_fillAfter_140 hl (k := 4) rfl ex_207 (by decide) rfl (fun ls hl => ?_)
                        refine lv_goto (tgt := 27) hx hb dX0_fillAfter_143 (by decide) ?_
                        exact ih_hloop_35 x_207 (by constructor <;> omega) f_202 hG _ _ hP hS hD hfr0 hfo_203 hTc_143 (by (try rw [ti_1]) <;> omega) ls (lv_sub hl [0, 5, 6, 7, 8, 9] rfl)
                · skip
                  rw [← Int32.toInt_inj, ti_0] at c_68
                  exfalso
                  omega
          exact hloop_35 10 0 (by decide) f_26 hG _ _ hP hS hD hfr0 hfo_27 hT0 (by (try rw [ti_0]) <;> omega) ls hl
        · skip
          rw [← Int32.toInt_inj, ti_0] at c_29
          refine lv_iconst (v := 0) hx hb dX0_fillAfter_14 (by decide) ?_
          refine lv_goto (tgt := 22) hx hb dX0_fillAfter_15 (by decide) ?_
          refine lv_istore (lv' := [(4, .int 0), (3, .int y_24), (0, .ref o0), (1, .ref o1), (2, .int p2)]) hx hb dX0_fillAfter_22 hl (by decide) rfl (fun ls hl => ?_)
          refine lv_iconst (v := 0) hx hb dX0_fillAfter_24 (by decide) ?_
          refine lv_istore (lv' := [(5, .int 0), (4, .int 0), (3, .int y_24), (0, .ref o0), (1, .ref o1), (2, .int p2)]) hx hb dX0_fillAfter_25 hl (by decide) rfl (fun ls hl => ?_)
          have hloop_213 : ∀ (n : Nat), ∀ (y_214 : Int32), (0 ≤ y_214.toInt ∧ y_214.toInt ≤ 9) → ∀ (f_216 : Nat → va_E), GI (okc cI cL cZ cR cG cH L kd) kd L f_216 → ∀ (H : Heap) (locs : List Loc), va_P (dC, dI) vwCl (va_pl L f_216) H → va_S (fun q => q ∈ L) s.heap H locs → va_D (fun q => q ∈ L) (va_pl L f_216) → (∀ b, kd b ≠ 516 → kd b ≠ 534 → kd b ≠ 538 → f_216 b = f b) → (f_216 o1 = .inr (7, [.ref a_2, .int v_3, .ref a_4, .ref a_5, .ref a_6, .ref a_7, .int v_8, .ref a_9, .ref a_10, .ref a_11, .ref a_12, .ref a_13, .int v_14, .ref a_15, .ref a_16, .ref a_17])) → trel kd 7 508 510 515 4 f_216 o1 → 9 - y_214.toInt < (n : Int) → ∀ (ls : Array Slot), lv_has ls 10 [(5, .int y_214), (4, .int 0), (3, .int y_24), (0, .ref o0), (1, .ref o1), (2, .int p2)] → W p l e (headSpec (wU yX0_fillAfter cX0_fillAfter 10 none) { frames := 3, cells := 0, slots := 0, locals := 78 }).room s m [.ref o0, .ref o1, .int p2].toArray below meth c H locs 0 0 (MQ below (va_Qv (fun (f9 : Nat → va_E) => GI (okc cI cL cZ cR cG cH L kd) kd L f9 ∧ (∀ b, kd b ≠ 516 → kd b ≠ 534 → kd b ≠ 538 → f9 b = f b) ∧ (trel kd 7 508 510 515 4 f9 o1)) (qP (dC, dI) cI cL cZ cR cG cH L) (fun q => q ∈ L)) [.ref o0, .ref o1, .int p2].toArray s 0 0 (fun q => q ∈ L)) (F0 m 27 ls []) := by
            intro n
            induction n with
            | zero => intro y_214 by_214 f_216 hG H locs hP hS hD hfr0 hfo_217 hT0 hmuhloop_213 ls hl; exfalso; omega
            | succ n ih_hloop_213 =>
              intro y_214 by_214 f_216 hG H locs hP hS hD hfr0 hfo_217 hT0 hmuhloop_213 ls hl
              refine lv_iload hx hb dX0_fillAfter_27 (lv_at hl 0 rfl) ?_
              refine lv_iload hx hb dX0_fillAfter_29 (lv_at hl 1 rfl) ?_
              refine lv_icmp_gt (tgt := 146) hx hb dX0_fillAfter_31 (by decide) (fun c_218 => ?_) (fun c_218 => ?_)
              · skip
                rw [Int32.lt_iff_toInt_lt, ti_0] at c_218
                obtain ⟨x_219, ex_219⟩ : ∃ y : Int32, y_24 + 1 = y := ⟨_, rfl⟩
                have hx_219 : x_219.toInt = y_24.toInt + 1 := by rw [← ex_219, ad_I (by rw [ti_1]; omega) (by rw [ti_1]; omega), ti_1]
                have bx_219 : (1 ≤ x_219.toInt ∧ x_219.toInt ≤ 1) := by constructor <;> omega
                refine lv_iinc (v := x_219) (lv' := [(3, .int x_219), (5, .int y_214), (4, .int 0), (0, .ref o0), (1, .ref o1), (2, .int p2)]) hx hb dX0_fillAfter_146 hl (k := 2) rfl ex_219 (by decide) rfl (fun ls hl => ?_)
                refine lv_goto (tgt := 2) hx hb dX0_fillAfter_149 (by decide) ?_
                exact ih_hloop_23 x_219 (by constructor <;> omega) f_216 hG _ _ hP hS hD hfr0 hfo_217 hT0 (by (try rw [ti_0]) <;> omega) ls (lv_sub hl [0, 3, 4, 5] rfl)
              · skip
                rw [Int32.lt_iff_toInt_lt, ti_0] at c_218
                refine lv_aload_n hx hb dX0_fillAfter_34 rfl (lv_at hl 3 rfl) ?_
                obtain ⟨a_221, a_222, a_223, v_224, a_225, a_226, a_227, v_228, a_229, v_230, v_231, hfo_220, ⟨ma_221, ka_221⟩, ⟨ma_222, ka_222⟩, ⟨ma_223, ka_223⟩, bv_224, ⟨ma_225, ka_225⟩, ⟨ma_226, ka_226⟩, ⟨ma_227, ka_227⟩, ⟨ma_229, ka_229⟩⟩ := un_0 (hG _ mo0) ko0
                have bv_228 : ((-2147483648) ≤ v_228.toInt ∧ v_228.toInt ≤ 2147483647) := ⟨i32_lo _, i32_hi _⟩
                have bv_230 : ((-2147483648) ≤ v_230.toInt ∧ v_230.toInt ≤ 2147483647) := ⟨i32_lo _, i32_hi _⟩
                have bv_231 : ((-2147483648) ≤ v_231.toInt ∧ v_231.toInt ≤ 2147483647) := ⟨i32_lo _, i32_hi _⟩
                refine tk_getP (D := (dC, dI)) (ci := 0) (v := .ref a_229) (C := RX0) (T := TX0) (N := 11) hx hb hU inlX0 hown hK hP mo0 hfo_220 rfl 8 (by decide) (hU _ wd_163) (fun _ h9 => h9) rfl dX0_fillAfter_35 ?_
                refine lv_iconst (v := 0) hx hb dX0_fillAfter_38 (by decide) ?_
                refine lv_iload_n hx hb dX0_fillAfter_39 rfl (lv_at hl 2 rfl) ?_
                obtain ⟨g_233, hfo_232, hbg_233⟩ := un_538 (hG _ ma_229) ka_229
                refine tk_istP hx hb hK hP hD hS 0 ma_229 hfo_232 rfl (vp_in_nI (n := 0) (by decide) (by decide)) dX0_fillAfter_40 (fun H locs hP hD hS => ?_)
                obtain ⟨g_234, eqg_234⟩ : ∃ y : Nat → Int32, y = upd g_233 (Int32.toNatClampNeg 0) y_24 := ⟨_, rfl⟩
                rw [← eqg_234] at hP hD
                have hbg_234 : ∀ j, 0 ≤ (g_234 j).toInt ∧ (g_234 j).toInt ≤ 8 := by rw [eqg_234]; exact okI_up hbg_233 (by constructor <;> omega) _
                obtain ⟨f_236, ef_236⟩ : ∃ y : Nat → va_E, y = va_up f_216 a_229 (.inl (cI, 2, .inl g_234)) := ⟨_, rfl⟩
                have hP : va_P (dC, dI) vwCl (va_pl L f_236) H := by rw [ef_236]; exact hP
                have hD : va_D (fun q => q ∈ L) (va_pl L f_236) := by rw [ef_236]; exact hD
                have hG : GI (okc cI cL cZ cR cG cH L kd) kd L f_236 := by rw [ef_236]; exact hG.set a_229 (mk_538 ka_229 ⟨_, rfl, hbg_234⟩)
                have hfo_237 : f_236 o1 = .inr (7, [.ref a_2, .int v_3, .ref a_4, .ref a_5, .ref a_6, .ref a_7, .int v_8, .ref a_9, .ref a_10, .ref a_11, .ref a_12, .ref a_13, .int v_14, .ref a_15, .ref a_16, .ref a_17]) := by rw [ef_236, up_ne (kd_ne ka_229 ko1 (by decide))]; exact hfo_217
                have hfo_238 : f_236 o0 = .inr (0, [.ref a_221, .ref a_222, .ref a_223, .int v_224, .ref a_225, .ref a_226, .ref a_227, .int v_228, .ref a_229, .int v_230, .int v_231]) := by rw [ef_236, up_ne (kd_ne ka_229 ko0 (by decide))]; exact hfo_220
                have hfr0 : ∀ b, kd b ≠ 516 → kd b ≠ 534 → kd b ≠ 538 → f_236 b = f b := fun b q516 q534 q538 => (congrFun ef_236 b).trans ((up_ne (fun e9 => q538 (by rw [e9]; exact ka_229))).trans (hfr0 b q516 q534 q538))
                have hT0 : trel kd 7 508 510 515 4 f_236 o1 := by rw [ef_236]; exact hT0.up ka_229 (by decide) (by decide) (by decide) (by decide) (by decide)
                have hfo_239 : f_236 a_229 = .inl (cI, 2, .inl g_234) := by rw [ef_236]; exact up_self
                refine lv_aload_n hx hb dX0_fillAfter_41 rfl (lv_at hl 3 rfl) ?_
                refine tk_getP (D := (dC, dI)) (ci := 0) (v := .ref a_229) (C := RX0) (T := TX0) (N := 11) hx hb hU inlX0 hown hK hP mo0 hfo_238 rfl 8 (by decide) (hU _ wd_163) (fun _ h9 => h9) rfl dX0_fillAfter_42 ?_
                refine lv_iconst (v := 1) hx hb dX0_fillAfter_45 (by decide) ?_
                refine lv_iload hx hb dX0_fillAfter_46 (lv_at hl 0 rfl) ?_
                refine tk_istP hx hb hK hP hD hS 0 ma_229 hfo_239 rfl (vp_in_nI (n := 1) (by decide) (by decide)) dX0_fillAfter_48 (fun H locs hP hD hS => ?_)
                obtain ⟨g_240, eqg_240⟩ : ∃ y : Nat → Int32, y = upd g_234 (Int32.toNatClampNeg 1) y_214 := ⟨_, rfl⟩
                rw [← eqg_240] at hP hD
                have hbg_240 : ∀ j, 0 ≤ (g_240 j).toInt ∧ (g_240 j).toInt ≤ 8 := by rw [eqg_240]; exact okI_up hbg_234 (by constructor <;> omega) _
                obtain ⟨f_242, ef_242⟩ : ∃ y : Nat → va_E, y = va_up f_236 a_229 (.inl (cI, 2, .inl g_240)) := ⟨_, rfl⟩
                have hP : va_P (dC, dI) vwCl (va_pl L f_242) H := by rw [ef_242]; exact hP
                have hD : va_D (fun q => q ∈ L) (va_pl L f_242) := by rw [ef_242]; exact hD
                have hG : GI (okc cI cL cZ cR cG cH L kd) kd L f_242 := by rw [ef_242]; exact hG.set a_229 (mk_538 ka_229 ⟨_, rfl, hbg_240⟩)
                have hfo_243 : f_242 o1 = .inr (7, [.ref a_2, .int v_3, .ref a_4, .ref a_5, .ref a_6, .ref a_7, .int v_8, .ref a_9, .ref a_10, .ref a_11, .ref a_12, .ref a_13, .int v_14, .ref a_15, .ref a_16, .ref a_17]) := by rw [ef_242, up_ne (kd_ne ka_229 ko1 (by decide))]; exact hfo_237
                have hfo_244 : f_242 o0 = .inr (0, [.ref a_221, .ref a_222, .ref a_223, .int v_224, .ref a_225, .ref a_226, .ref a_227, .int v_228, .ref a_229, .int v_230, .int v_231]) := by rw [ef_242, up_ne (kd_ne ka_229 ko0 (by decide))]; exact hfo_238
                have hfr0 : ∀ b, kd b ≠ 516 → kd b ≠ 534 → kd b ≠ 538 → f_242 b = f b := fun b q516 q534 q538 => (congrFun ef_242 b).trans ((up_ne (fun e9 => q538 (by rw [e9]; exact ka_229))).trans (hfr0 b q516 q534 q538))
                have hT0 : trel kd 7 508 510 515 4 f_242 o1 := by rw [ef_242]; exact hT0.up ka_229 (by decide) (by decide) (by decide) (by decide) (by decide)
                have hfo_245 : f_242 a_229 = .inl (cI, 2, .inl g_240) := by rw [ef_242]; exact up_self
                refine lv_iload_n hx hb dX0_fillAfter_49 rfl (lv_at hl 2 rfl) ?_
                refine lv_if_ne (tgt := 57) hx hb dX0_fillAfter_50 (by decide) (fun c_246 => ?_) (fun c_246 => ?_)
                · skip
                  rw [← Int32.toInt_inj, ti_0] at c_246
                  exfalso
                  omega
                · skip
                  rw [← Int32.toInt_inj, ti_0] at c_246
                  refine lv_iconst (v := 0) hx hb dX0_fillAfter_53 (by decide) ?_
                  refine lv_goto (tgt := 67) hx hb dX0_fillAfter_54 (by decide) ?_
                  refine lv_istore (lv' := [(6, .int 0), (5, .int y_214), (4, .int 0), (3, .int y_24), (0, .ref o0), (1, .ref o1), (2, .int p2)]) hx hb dX0_fillAfter_67 hl (by decide) rfl (fun ls hl => ?_)
                  have hwf : ∀ j : Nat, (j : Int) < 0 → 1 ≤ (g_240 j).toInt ∧ (g_240 j).toInt ≤ v_3.toInt := by intro j hj; rcases (show j = 0 ∨ j = 1 by omega) with rfl | rfl; (· rw [eqg_240, eqg_234, w2_0]; exfalso; omega); (· rw [eqg_240, eqg_234, w2_1]; exfalso; omega)
                  refine lv_aload_n hx hb dX0_fillAfter_69 rfl (lv_at hl 5 rfl) ?_
                  refine lv_iload_n hx hb dX0_fillAfter_70 rfl (lv_at hl 6 rfl) ?_
                  refine lv_aload_n hx hb dX0_fillAfter_71 rfl (lv_at hl 4 rfl) ?_
                  refine tk_getP (D := (dC, dI)) (ci := 0) (v := .ref a_229) (C := RX0) (T := TX0) (N := 11) hx hb hU inlX0 hown hK hP mo0 hfo_244 rfl 8 (by decide) (hU _ wd_163) (fun _ h9 => h9) rfl dX0_fillAfter_72 ?_
                  refine lv_iload hx hb dX0_fillAfter_75 (lv_at hl 0 rfl) ?_
                  refine tk_ViP (As := [.int p2, .ref a_229, .int 0]) (rest := []) (n := 3) hx hb hml hown hU hN hZ (s_X7_ageBy_k7_a538_t l (dC, dI) cI cL cZ cR cG cH Z kd L f_242 hG o1 mo1 ko1 p2 (by constructor <;> omega) a_229 ma_229 ka_229 0 (by decide) hT0 (fun n9 g9 h1 h2 j hj => by rw [hfo_243] at h1; obtain rfl := Option.some.inj h1; rw [hfo_245] at h2; cases h2; (try rw [ti_0] at hj); have h8 := hwf j (by omega); constructor <;> omega) (fun c9 h9 => by rw [hfo_243] at h9; obtain rfl := Option.some.inj h9; omega)) wd_1205 wd_1104 wd_1105 wd_28 wd_1106 (by decide +kernel) ⟨Nat.le_of_ble_eq_true rfl, Nat.le_of_ble_eq_true rfl⟩ hK hP hD hS mo1 hfo_243 7 rfl rfl rfl hl.1 rfl (Nat.le_of_ble_eq_true rfl) dX0_fillAfter_77 ⟨Nat.le_of_ble_eq_true rfl, Nat.le_of_ble_eq_true rfl⟩ (fun x_247 f_248 H locs hw hP hD hS => ?_)
                  obtain ⟨hG, bx_247, relx_247, hkc_249, hxp_250, hTc_251⟩ := hw
                  have hfo_253 : f_248 o1 = .inr (7, [.ref a_2, .int v_3, .ref a_4, .ref a_5, .ref a_6, .ref a_7, .int v_8, .ref a_9, .ref a_10, .ref a_11, .ref a_12, .ref a_13, .int v_14, .ref a_15, .ref a_16, .ref a_17]) := by rw [hkc_249 o1 (by rw [ko1]; decide) (by rw [ko1]; decide)]; exact hfo_243
                  have hfo_254 : f_248 o0 = .inr (0, [.ref a_221, .ref a_222, .ref a_223, .int v_224, .ref a_225, .ref a_226, .ref a_227, .int v_228, .ref a_229, .int v_230, .int v_231]) := by rw [hkc_249 o0 (by rw [ko0]; decide) (by rw [ko0]; decide)]; exact hfo_244
                  have hfr0 : ∀ b, kd b ≠ 516 → kd b ≠ 534 → kd b ≠ 538 → f_248 b = f b := fun b q516 q534 q538 => (hkc_249 b q516 q538).trans (hfr0 b q516 q534 q538)
                  have hT0 : trel kd 7 508 510 515 4 f_248 o1 := hT0.keep (fun b q => hkc_249 b (by rw [q]; decide) (by rw [q]; decide)) (fun b q => hkc_249 b (by rw [q]; decide) (by rw [q]; decide)) (fun b q => hkc_249 b (by rw [q]; decide) (by rw [q]; decide)) (fun b q => hkc_249 b (by rw [q]; decide) (by rw [q]; decide)) (fun b q => congrArg (fun x => fldI x 1) (hkc_249 b (by rw [q]; decide) (by rw [q]; decide)))
                  try rw [ti_0] at relx_247
                  obtain ⟨g_256, hfo_255, hbg_256⟩ := un_538 (hG _ ma_229) ka_229
                  have hagx_247 := hxp_250 v_3 g_256 (by rw [← hkc_249 o1 (by rw [ko1]; decide) (by rw [ko1]; decide), hfo_253]; rfl) hfo_255
                  refine lv_istore (lv' := [(7, .int x_247), (6, .int 0), (5, .int y_214), (4, .int 0), (3, .int y_24), (0, .ref o0), (1, .ref o1), (2, .int p2)]) hx hb dX0_fillAfter_80 hl (by decide) rfl (fun ls hl => ?_)
                  refine lv_iload hx hb dX0_fillAfter_82 (lv_at hl 0 rfl) ?_
                  refine lv_if_le (tgt := 96) hx hb dX0_fillAfter_84 (by decide) (fun c_257 => ?_) (fun c_257 => ?_)
                  · skip
                    rw [Int32.le_iff_toInt_le, ti_0] at c_257
                    refine lv_iconst (v := 0) hx hb dX0_fillAfter_96 (by decide) ?_
                    refine lv_istore (lv' := [(8, .int 0), (7, .int x_247), (6, .int 0), (5, .int y_214), (4, .int 0), (3, .int y_24), (0, .ref o0), (1, .ref o1), (2, .int p2)]) hx hb dX0_fillAfter_97 hl (by decide) rfl (fun ls hl => ?_)
                    refine lv_iload hx hb dX0_fillAfter_99 (lv_at hl 1 rfl) ?_
                    refine lv_iconst (v := 1) hx hb dX0_fillAfter_101 (by decide) ?_
                    refine lv_icmp_le (tgt := 114) hx hb dX0_fillAfter_102 (by decide) (fun c_258 => ?_) (fun c_258 => ?_)
                    · skip
                      rw [Int32.le_iff_toInt_le, ti_1] at c_258
                      refine lv_iconst (v := 0) hx hb dX0_fillAfter_114 (by decide) ?_
                      refine lv_istore (lv' := [(9, .int 0), (8, .int 0), (7, .int x_247), (6, .int 0), (5, .int y_214), (4, .int 0), (3, .int y_24), (0, .ref o0), (1, .ref o1), (2, .int p2)]) hx hb dX0_fillAfter_115 hl (by decide) rfl (fun ls hl => ?_)
                      refine lv_aload_n hx hb dX0_fillAfter_117 rfl (lv_at hl 7 rfl) ?_
                      refine tk_getP (D := (dC, dI)) (ci := 0) (v := .ref a_221) (C := RX0) (T := TX0) (N := 11) hx hb hU inlX0 hown hK hP mo0 hfo_254 rfl 0 (by decide) (hU _ wd_157) (fun _ h9 => h9) rfl dX0_fillAfter_118 ?_
                      refine lv_iload_n hx hb dX0_fillAfter_121 rfl (lv_at hl 9 rfl) ?_
                      refine lv_bipush (v := 73) hx hb dX0_fillAfter_122 (by decide) ?_
                      refine lv_imul hx hb dX0_fillAfter_124 ?_
                      refine lv_topi (fun x_259 ex_259 => ?_)
                      have hx_259 : x_259.toInt = p2.toInt * 73 := by rw [ex_259, ml_I (by rw [ti_73]; omega) (by rw [ti_73]; omega), ti_73]
                      have bx_259 : (0 ≤ x_259.toInt ∧ x_259.toInt ≤ 511) := by constructor <;> omega
                      refine lv_iload_n hx hb dX0_fillAfter_125 rfl (lv_at hl 6 rfl) ?_
                      refine lv_iload hx hb dX0_fillAfter_126 (lv_at hl 4 rfl) ?_
                      refine tk_SiP (As := [.int y_24, .int y_214]) (rest := [.int x_259, .ref a_221]) (n := 2) hx hb hml hown hU hN hZ (s_X0_numberOf l (dC, dI) cI cL cZ cR cG cH Z kd L f_248 hG y_24 (by constructor <;> omega) y_214 (by constructor <;> omega)) wd_1206 wd_1207 wd_37 wd_1208 (by decide +kernel) ⟨Nat.le_of_ble_eq_true rfl, Nat.le_of_ble_eq_true rfl⟩ hK hP hD hS rfl hl.1 rfl (Nat.le_of_ble_eq_true rfl) dX0_fillAfter_128 ⟨Nat.le_of_ble_eq_true rfl, Nat.le_of_ble_eq_true rfl⟩ (fun x_260 f_261 H locs hw hP hD hS => ?_)
                      obtain ⟨rfl, bx_260⟩ := hw
                      refine lv_iadd hx hb dX0_fillAfter_131 ?_
                      refine lv_topi (fun x_263 ex_263 => ?_)
                      have hx_263 : x_263.toInt = x_259.toInt + x_260.toInt := by rw [ex_263, ad_I (by omega) (by omega)]
                      have bx_263 : (0 ≤ x_263.toInt ∧ x_263.toInt ≤ 583) := by constructor <;> omega
                      refine lv_iload hx hb dX0_fillAfter_132 (lv_at hl 1 rfl) ?_
                      refine lv_iload hx hb dX0_fillAfter_134 (lv_at hl 0 rfl) ?_
                      refine tk_SiP (As := [.int 0, .int 0]) (rest := [.int x_263, .ref a_221]) (n := 2) hx hb hml hown hU hN hZ (s_X0_numberOf l (dC, dI) cI cL cZ cR cG cH Z kd L f_248 hG 0 (by decide) 0 (by decide)) wd_1206 wd_1207 wd_37 wd_1208 (by decide +kernel) ⟨Nat.le_of_ble_eq_true rfl, Nat.le_of_ble_eq_true rfl⟩ hK hP hD hS rfl hl.1 rfl (Nat.le_of_ble_eq_true rfl) dX0_fillAfter_136 ⟨Nat.le_of_ble_eq_true rfl, Nat.le_of_ble_eq_true rfl⟩ (fun x_264 f_265 H locs hw hP hD hS => ?_)
                      obtain ⟨rfl, bx_264⟩ := hw
                      obtain ⟨g_268, hfo_267, hbg_268⟩ := un_534 (hG _ ma_221) ka_221
                      refine tk_istP hx hb hK hP hD hS 0 ma_221 hfo_267 rfl (vp_in_iff.mpr (by constructor <;> omega)) dX0_fillAfter_139 (fun H locs hP hD hS => ?_)
                      obtain ⟨g_269, eqg_269⟩ : ∃ y : Nat → Int32, y = upd g_268 (Int32.toNatClampNeg x_263) x_264 := ⟨_, rfl⟩
                      rw [← eqg_269] at hP hD
                      have hbg_269 : ∀ j, 0 ≤ (g_269 j).toInt ∧ (g_269 j).toInt ≤ 72 := by rw [eqg_269]; exact okI_up hbg_268 (by constructor <;> omega) _
                      obtain ⟨f_271, ef_271⟩ : ∃ y : Nat → va_E, y = va_up f_248 a_221 (.inl (cI, 584, .inl g_269)) := ⟨_, rfl⟩
                      have hP : va_P (dC, dI) vwCl (va_pl L f_271) H := by rw [ef_271]; exact hP
                      have hD : va_D (fun q => q ∈ L) (va_pl L f_271) := by rw [ef_271]; exact hD
                      have hG : GI (okc cI cL cZ cR cG cH L kd) kd L f_271 := by rw [ef_271]; exact hG.set a_221 (mk_534 ka_221 ⟨_, rfl, hbg_269⟩)
                      have hfo_272 : f_271 o1 = .inr (7, [.ref a_2, .int v_3, .ref a_4, .ref a_5, .ref a_6, .ref a_7, .int v_8, .ref a_9, .ref a_10, .ref a_11, .ref a_12, .ref a_13, .int v_14, .ref a_15, .ref a_16, .ref a_17]) := by rw [ef_271, up_ne (kd_ne ka_221 ko1 (by decide))]; exact hfo_253
                      have hfo_273 : f_271 o0 = .inr (0, [.ref a_221, .ref a_222, .ref a_223, .int v_224, .ref a_225, .ref a_226, .ref a_227, .int v_228, .ref a_229, .int v_230, .int v_231]) := by rw [ef_271, up_ne (kd_ne ka_221 ko0 (by decide))]; exact hfo_254
                      have hfo_274 : f_271 a_229 = .inl (cI, 2, .inl g_256) := by rw [ef_271, up_ne (kd_ne ka_221 ka_229 (by decide))]; exact hfo_255
                      have hfr0 : ∀ b, kd b ≠ 516 → kd b ≠ 534 → kd b ≠ 538 → f_271 b = f b := fun b q516 q534 q538 => (congrFun ef_271 b).trans ((up_ne (fun e9 => q534 (by rw [e9]; exact ka_221))).trans (hfr0 b q516 q534 q538))
                      have hTc_251 : trel kd 7 508 510 515 4 f_271 o1 := by rw [ef_271]; exact hTc_251.up ka_221 (by decide) (by decide) (by decide) (by decide) (by decide)
                      have hfo_275 : f_271 a_221 = .inl (cI, 584, .inl g_269) := by rw [ef_271]; exact up_self
                      obtain ⟨x_276, ex_276⟩ : ∃ y : Int32, y_214 + 1 = y := ⟨_, rfl⟩
                      have hx_276 : x_276.toInt = y_214.toInt + 1 := by rw [← ex_276, ad_I (by rw [ti_1]; omega) (by rw [ti_1]; omega), ti_1]
                      have bx_276 : (1 ≤ x_276.toInt ∧ x_276.toInt ≤ 1) := by constructor <;> omega
                      refine lv_iinc (v := x_276) (lv' := [(5, .int x_276), (9, .int 0), (8, .int 0), (7, .int x_247), (6, .int 0), (4, .int 0), (3, .int y_24), (0, .ref o0), (1, .ref o1), (2, .int p2)]) hx hb dX0_fillAfter_140 hl (k := 4) rfl ex_276 (by decide) rfl (fun ls hl => ?_)
                      refine lv_goto (tgt := 27) hx hb dX0_fillAfter_143 (by decide) ?_
                      exact ih_hloop_213 x_276 (by constructor <;> omega) f_271 hG _ _ hP hS hD hfr0 hfo_272 hTc_251 (by (try rw [ti_0]) <;> omega) ls (lv_sub hl [0, 5, 6, 7, 8, 9] rfl)
                    · skip
                      rw [Int32.le_iff_toInt_le, ti_1] at c_258
                      exfalso
                      omega
                  · skip
                    rw [Int32.le_iff_toInt_le, ti_0] at c_257
                    refine lv_aload_n hx hb dX0_fillAfter_87 rfl (lv_at hl 5 rfl) ?_
                    refine tk_getP (D := (dC, dI)) (ci := 0) (v := .ref a_229) (C := RX0) (T := TX0) (N := 11) hx hb hU inlX0 hown hK hP mo0 hfo_254 rfl 8 (by decide) (hU _ wd_163) (fun _ h9 => h9) rfl dX0_fillAfter_88 ?_
                    refine lv_iconst (v := 0) hx hb dX0_fillAfter_91 (by decide) ?_
                    refine tk_ildP hx hb hK hP 0 ma_229 hfo_255 rfl (vp_in_nI (n := 0) (by decide) (by decide)) dX0_fillAfter_92 ?_
                    refine lv_topi (fun x_277 ex_277 => ?_)
                    have bx_277 : (0 ≤ x_277.toInt ∧ x_277.toInt ≤ 8) := by rw [ex_277]; exact hbg_256 _
                    refine lv_goto (tgt := 97) hx hb dX0_fillAfter_93 (by decide) ?_
                    refine lv_istore (lv' := [(8, .int x_277), (7, .int x_247), (6, .int 0), (5, .int y_214), (4, .int 0), (3, .int y_24), (0, .ref o0), (1, .ref o1), (2, .int p2)]) hx hb dX0_fillAfter_97 hl (by decide) rfl (fun ls hl => ?_)
                    refine lv_iload hx hb dX0_fillAfter_99 (lv_at hl 1 rfl) ?_
                    refine lv_iconst (v := 1) hx hb dX0_fillAfter_101 (by decide) ?_
                    refine lv_icmp_le (tgt := 114) hx hb dX0_fillAfter_102 (by decide) (fun c_278 => ?_) (fun c_278 => ?_)
                    · skip
                      rw [Int32.le_iff_toInt_le, ti_1] at c_278
                      refine lv_iconst (v := 0) hx hb dX0_fillAfter_114 (by decide) ?_
                      refine lv_istore (lv' := [(9, .int 0), (8, .int x_277), (7, .int x_247), (6, .int 0), (5, .int y_214), (4, .int 0), (3, .int y_24), (0, .ref o0), (1, .ref o1), (2, .int p2)]) hx hb dX0_fillAfter_115 hl (by decide) rfl (fun ls hl => ?_)
                      refine lv_aload_n hx hb dX0_fillAfter_117 rfl (lv_at hl 7 rfl) ?_
                      refine tk_getP (D := (dC, dI)) (ci := 0) (v := .ref a_221) (C := RX0) (T := TX0) (N := 11) hx hb hU inlX0 hown hK hP mo0 hfo_254 rfl 0 (by decide) (hU _ wd_157) (fun _ h9 => h9) rfl dX0_fillAfter_118 ?_
                      refine lv_iload_n hx hb dX0_fillAfter_121 rfl (lv_at hl 9 rfl) ?_
                      refine lv_bipush (v := 73) hx hb dX0_fillAfter_122 (by decide) ?_
                      refine lv_imul hx hb dX0_fillAfter_124 ?_
                      refine lv_topi (fun x_279 ex_279 => ?_)
                      have hx_279 : x_279.toInt = p2.toInt * 73 := by rw [ex_279, ml_I (by rw [ti_73]; omega) (by rw [ti_73]; omega), ti_73]
                      have bx_279 : (0 ≤ x_279.toInt ∧ x_279.toInt ≤ 511) := by constructor <;> omega
                      refine lv_iload_n hx hb dX0_fillAfter_125 rfl (lv_at hl 6 rfl) ?_
                      refine lv_iload hx hb dX0_fillAfter_126 (lv_at hl 4 rfl) ?_
                      refine tk_SiP (As := [.int y_24, .int y_214]) (rest := [.int x_279, .ref a_221]) (n := 2) hx hb hml hown hU hN hZ (s_X0_numberOf l (dC, dI) cI cL cZ cR cG cH Z kd L f_248 hG y_24 (by constructor <;> omega) y_214 (by constructor <;> omega)) wd_1206 wd_1207 wd_37 wd_1208 (by decide +kernel) ⟨Nat.le_of_ble_eq_true rfl, Nat.le_of_ble_eq_true rfl⟩ hK hP hD hS rfl hl.1 rfl (Nat.le_of_ble_eq_true rfl) dX0_fillAfter_128 ⟨Nat.le_of_ble_eq_true rfl, Nat.le_of_ble_eq_true rfl⟩ (fun x_280 f_281 H locs hw hP hD hS => ?_)
                      obtain ⟨rfl, bx_280⟩ := hw
                      refine lv_iadd hx hb dX0_fillAfter_131 ?_
                      refine lv_topi (fun x_283 ex_283 => ?_)
                      have hx_283 : x_283.toInt = x_279.toInt + x_280.toInt := by rw [ex_283, ad_I (by omega) (by omega)]
                      have bx_283 : (0 ≤ x_283.toInt ∧ x_283.toInt ≤ 583) := by constructor <;> omega
                      refine lv_iload hx hb dX0_fillAfter_132 (lv_at hl 1 rfl) ?_
                      refine lv_iload hx hb dX0_fillAfter_134 (lv_at hl 0 rfl) ?_
                      refine tk_SiP (As := [.int x_277, .int 0]) (rest := [.int x_283, .ref a_221]) (n := 2) hx hb hml hown hU hN hZ (s_X0_numberOf l (dC, dI) cI cL cZ cR cG cH Z kd L f_248 hG x_277 (by constructor <;> omega) 0 (by decide)) wd_1206 wd_1207 wd_37 wd_1208 (by decide +kernel) ⟨Nat.le_of_ble_eq_true rfl, Nat.le_of_ble_eq_true rfl⟩ hK hP hD hS rfl hl.1 rfl (Nat.le_of_ble_eq_true rfl) dX0_fillAfter_136 ⟨Nat.le_of_ble_eq_true rfl, Nat.le_of_ble_eq_true rfl⟩ (fun x_284 f_285 H locs hw hP hD hS => ?_)
                      obtain ⟨rfl, bx_284⟩ := hw
                      obtain ⟨g_288, hfo_287, hbg_288⟩ := un_534 (hG _ ma_221) ka_221
                      refine tk_istP hx hb hK hP hD hS 0 ma_221 hfo_287 rfl (vp_in_iff.mpr (by constructor <;> omega)) dX0_fillAfter_139 (fun H locs hP hD hS => ?_)
                      obtain ⟨g_289, eqg_289⟩ : ∃ y : Nat → Int32, y = upd g_288 (Int32.toNatClampNeg x_283) x_284 := ⟨_, rfl⟩
                      rw [← eqg_289] at hP hD
                      have hbg_289 : ∀ j, 0 ≤ (g_289 j).toInt ∧ (g_289 j).toInt ≤ 72 := by rw [eqg_289]; exact okI_up hbg_288 (by constructor <;> omega) _
                      obtain ⟨f_291, ef_291⟩ : ∃ y : Nat → va_E, y = va_up f_248 a_221 (.inl (cI, 584, .inl g_289)) := ⟨_, rfl⟩
                      have hP : va_P (dC, dI) vwCl (va_pl L f_291) H := by rw [ef_291]; exact hP
                      have hD : va_D (fun q => q ∈ L) (va_pl L f_291) := by rw [ef_291]; exact hD
                      have hG : GI (okc cI cL cZ cR cG cH L kd) kd L f_291 := by rw [ef_291]; exact hG.set a_221 (mk_534 ka_221 ⟨_, rfl, hbg_289⟩)
                      have hfo_292 : f_291 o1 = .inr (7, [.ref a_2, .int v_3, .ref a_4, .ref a_5, .ref a_6, .ref a_7, .int v_8, .ref a_9, .ref a_10, .ref a_11, .ref a_12, .ref a_13, .int v_14, .ref a_15, .ref a_16, .ref a_17]) := by rw [ef_291, up_ne (kd_ne ka_221 ko1 (by decide))]; exact hfo_253
                      have hfo_293 : f_291 o0 = .inr (0, [.ref a_221, .ref a_222, .ref a_223, .int v_224, .ref a_225, .ref a_226, .ref a_227, .int v_228, .ref a_229, .int v_230, .int v_231]) := by rw [ef_291, up_ne (kd_ne ka_221 ko0 (by decide))]; exact hfo_254
                      have hfo_294 : f_291 a_229 = .inl (cI, 2, .inl g_256) := by rw [ef_291, up_ne (kd_ne ka_221 ka_229 (by decide))]; exact hfo_255
                      have hfr0 : ∀ b, kd b ≠ 516 → kd b ≠ 534 → kd b ≠ 538 → f_291 b = f b := fun b q516 q534 q538 => (congrFun ef_291 b).trans ((up_ne (fun e9 => q534 (by rw [e9]; exact ka_221))).trans (hfr0 b q516 q534 q538))
                      have hTc_251 : trel kd 7 508 510 515 4 f_291 o1 := by rw [ef_291]; exact hTc_251.up ka_221 (by decide) (by decide) (by decide) (by decide) (by decide)
                      have hfo_295 : f_291 a_221 = .inl (cI, 584, .inl g_289) := by rw [ef_291]; exact up_self
                      obtain ⟨x_296, ex_296⟩ : ∃ y : Int32, y_214 + 1 = y := ⟨_, rfl⟩
                      have hx_296 : x_296.toInt = y_214.toInt + 1 := by rw [← ex_296, ad_I (by rw [ti_1]; omega) (by rw [ti_1]; omega), ti_1]
                      have bx_296 : (1 ≤ x_296.toInt ∧ x_296.toInt ≤ 1) := by constructor <;> omega
                      refine lv_iinc (v := x_296) (lv' := [(5, .int x_296), (9, .int 0), (8, .int x_277), (7, .int x_247), (6, .int 0), (4, .int 0), (3, .int y_24), (0, .ref o0), (1, .ref o1), (2, .int p2)]) hx hb dX0_fillAfter_140 hl (k := 4) rfl ex_296 (by decide) rfl (fun ls hl => ?_)
                      refine lv_goto (tgt := 27) hx hb dX0_fillAfter_143 (by decide) ?_
                      exact ih_hloop_213 x_296 (by constructor <;> omega) f_291 hG _ _ hP hS hD hfr0 hfo_292 hTc_251 (by (try rw [ti_0]) <;> omega) ls (lv_sub hl [0, 5, 6, 7, 8, 9] rfl)
                    · skip
                      rw [Int32.le_iff_toInt_le, ti_1] at c_278
                      refine lv_aload_n hx hb dX0_fillAfter_105 rfl (lv_at hl 6 rfl) ?_
                      refine tk_getP (D := (dC, dI)) (ci := 0) (v := .ref a_229) (C := RX0) (T := TX0) (N := 11) hx hb hU inlX0 hown hK hP mo0 hfo_254 rfl 8 (by decide) (hU _ wd_163) (fun _ h9 => h9) rfl dX0_fillAfter_106 ?_
                      refine lv_iconst (v := 1) hx hb dX0_fillAfter_109 (by decide) ?_
                      refine tk_ildP hx hb hK hP 0 ma_229 hfo_255 rfl (vp_in_nI (n := 1) (by decide) (by decide)) dX0_fillAfter_110 ?_
                      refine lv_topi (fun x_297 ex_297 => ?_)
                      have bx_297 : (0 ≤ x_297.toInt ∧ x_297.toInt ≤ 8) := by rw [ex_297]; exact hbg_256 _
                      refine lv_goto (tgt := 115) hx hb dX0_fillAfter_111 (by decide) ?_
                      refine lv_istore (lv' := [(9, .int x_297), (8, .int x_277), (7, .int x_247), (6, .int 0), (5, .int y_214), (4, .int 0), (3, .int y_24), (0, .ref o0), (1, .ref o1), (2, .int p2)]) hx hb dX0_fillAfter_115 hl (by decide) rfl (fun ls hl => ?_)
                      refine lv_aload_n hx hb dX0_fillAfter_117 rfl (lv_at hl 7 rfl) ?_
                      refine tk_getP (D := (dC, dI)) (ci := 0) (v := .ref a_221) (C := RX0) (T := TX0) (N := 11) hx hb hU inlX0 hown hK hP mo0 hfo_254 rfl 0 (by decide) (hU _ wd_157) (fun _ h9 => h9) rfl dX0_fillAfter_118 ?_
                      refine lv_iload_n hx hb dX0_fillAfter_121 rfl (lv_at hl 9 rfl) ?_
                      refine lv_bipush (v := 73) hx hb dX0_fillAfter_122 (by decide) ?_
                      refine lv_imul hx hb dX0_fillAfter_124 ?_
                      refine lv_topi (fun x_298 ex_298 => ?_)
                      have hx_298 : x_298.toInt = p2.toInt * 73 := by rw [ex_298, ml_I (by rw [ti_73]; omega) (by rw [ti_73]; omega), ti_73]
                      have bx_298 : (0 ≤ x_298.toInt ∧ x_298.toInt ≤ 511) := by constructor <;> omega
                      refine lv_iload_n hx hb dX0_fillAfter_125 rfl (lv_at hl 6 rfl) ?_
                      refine lv_iload hx hb dX0_fillAfter_126 (lv_at hl 4 rfl) ?_
                      refine tk_SiP (As := [.int y_24, .int y_214]) (rest := [.int x_298, .ref a_221]) (n := 2) hx hb hml hown hU hN hZ (s_X0_numberOf l (dC, dI) cI cL cZ cR cG cH Z kd L f_248 hG y_24 (by constructor <;> omega) y_214 (by constructor <;> omega)) wd_1206 wd_1207 wd_37 wd_1208 (by decide +kernel) ⟨Nat.le_of_ble_eq_true rfl, Nat.le_of_ble_eq_true rfl⟩ hK hP hD hS rfl hl.1 rfl (Nat.le_of_ble_eq_true rfl) dX0_fillAfter_128 ⟨Nat.le_of_ble_eq_true rfl, Nat.le_of_ble_eq_true rfl⟩ (fun x_299 f_300 H locs hw hP hD hS => ?_)
                      obtain ⟨rfl, bx_299⟩ := hw
                      refine lv_iadd hx hb dX0_fillAfter_131 ?_
                      refine lv_topi (fun x_302 ex_302 => ?_)
                      have hx_302 : x_302.toInt = x_298.toInt + x_299.toInt := by rw [ex_302, ad_I (by omega) (by omega)]
                      have bx_302 : (0 ≤ x_302.toInt ∧ x_302.toInt ≤ 583) := by constructor <;> omega
                      refine lv_iload hx hb dX0_fillAfter_132 (lv_at hl 1 rfl) ?_
                      refine lv_iload hx hb dX0_fillAfter_134 (lv_at hl 0 rfl) ?_
                      refine tk_SiP (As := [.int x_277, .int x_297]) (rest := [.int x_302, .ref a_221]) (n := 2) hx hb hml hown hU hN hZ (s_X0_numberOf l (dC, dI) cI cL cZ cR cG cH Z kd L f_248 hG x_277 (by constructor <;> omega) x_297 (by constructor <;> omega)) wd_1206 wd_1207 wd_37 wd_1208 (by decide +kernel) ⟨Nat.le_of_ble_eq_true rfl, Nat.le_of_ble_eq_true rfl⟩ hK hP hD hS rfl hl.1 rfl (Nat.le_of_ble_eq_true rfl) dX0_fillAfter_136 ⟨Nat.le_of_ble_eq_true rfl, Nat.le_of_ble_eq_true rfl⟩ (fun x_303 f_304 H locs hw hP hD hS => ?_)
                      obtain ⟨rfl, bx_303⟩ := hw
                      obtain ⟨g_307, hfo_306, hbg_307⟩ := un_534 (hG _ ma_221) ka_221
                      refine tk_istP hx hb hK hP hD hS 0 ma_221 hfo_306 rfl (vp_in_iff.mpr (by constructor <;> omega)) dX0_fillAfter_139 (fun H locs hP hD hS => ?_)
                      obtain ⟨g_308, eqg_308⟩ : ∃ y : Nat → Int32, y = upd g_307 (Int32.toNatClampNeg x_302) x_303 := ⟨_, rfl⟩
                      rw [← eqg_308] at hP hD
                      have hbg_308 : ∀ j, 0 ≤ (g_308 j).toInt ∧ (g_308 j).toInt ≤ 72 := by rw [eqg_308]; exact okI_up hbg_307 (by constructor <;> omega) _
                      obtain ⟨f_310, ef_310⟩ : ∃ y : Nat → va_E, y = va_up f_248 a_221 (.inl (cI, 584, .inl g_308)) := ⟨_, rfl⟩
                      have hP : va_P (dC, dI) vwCl (va_pl L f_310) H := by rw [ef_310]; exact hP
                      have hD : va_D (fun q => q ∈ L) (va_pl L f_310) := by rw [ef_310]; exact hD
                      have hG : GI (okc cI cL cZ cR cG cH L kd) kd L f_310 := by rw [ef_310]; exact hG.set a_221 (mk_534 ka_221 ⟨_, rfl, hbg_308⟩)
                      have hfo_311 : f_310 o1 = .inr (7, [.ref a_2, .int v_3, .ref a_4, .ref a_5, .ref a_6, .ref a_7, .int v_8, .ref a_9, .ref a_10, .ref a_11, .ref a_12, .ref a_13, .int v_14, .ref a_15, .ref a_16, .ref a_17]) := by rw [ef_310, up_ne (kd_ne ka_221 ko1 (by decide))]; exact hfo_253
                      have hfo_312 : f_310 o0 = .inr (0, [.ref a_221, .ref a_222, .ref a_223, .int v_224, .ref a_225, .ref a_226, .ref a_227, .int v_228, .ref a_229, .int v_230, .int v_231]) := by rw [ef_310, up_ne (kd_ne ka_221 ko0 (by decide))]; exact hfo_254
                      have hfo_313 : f_310 a_229 = .inl (cI, 2, .inl g_256) := by rw [ef_310, up_ne (kd_ne ka_221 ka_229 (by decide))]; exact hfo_255
                      have hfr0 : ∀ b, kd b ≠ 516 → kd b ≠ 534 → kd b ≠ 538 → f_310 b = f b := fun b q516 q534 q538 => (congrFun ef_310 b).trans ((up_ne (fun e9 => q534 (by rw [e9]; exact ka_221))).trans (hfr0 b q516 q534 q538))
                      have hTc_251 : trel kd 7 508 510 515 4 f_310 o1 := by rw [ef_310]; exact hTc_251.up ka_221 (by decide) (by decide) (by decide) (by decide) (by decide)
                      have hfo_314 : f_310 a_221 = .inl (cI, 584, .inl g_308) := by rw [ef_310]; exact up_self
                      obtain ⟨x_315, ex_315⟩ : ∃ y : Int32, y_214 + 1 = y := ⟨_, rfl⟩
                      have hx_315 : x_315.toInt = y_214.toInt + 1 := by rw [← ex_315, ad_I (by rw [ti_1]; omega) (by rw [ti_1]; omega), ti_1]
                      have bx_315 : (1 ≤ x_315.toInt ∧ x_315.toInt ≤ 1) := by constructor <;> omega
                      refine lv_iinc (v := x_315) (lv' := [(5, .int x_315), (9, .int x_297), (8, .int x_277), (7, .int x_247), (6, .int 0), (4, .int 0), (3, .int y_24), (0, .ref o0), (1, .ref o1), (2, .int p2)]) hx hb dX0_fillAfter_140 hl (k := 4) rfl ex_315 (by decide) rfl (fun ls hl => ?_)
                      refine lv_goto (tgt := 27) hx hb dX0_fillAfter_143 (by decide) ?_
                      exact ih_hloop_213 x_315 (by constructor <;> omega) f_310 hG _ _ hP hS hD hfr0 hfo_311 hTc_251 (by (try rw [ti_0]) <;> omega) ls (lv_sub hl [0, 5, 6, 7, 8, 9] rfl)
          exact hloop_213 10 0 (by decide) f_26 hG _ _ hP hS hD hfr0 hfo_27 hT0 (by (try rw [ti_0]) <;> omega) ls hl
  exact hloop_23 10 0 (by decide) f hG _ _ hP hS hD hfr0 hfo_1 hT0 (by (try rw [ti_0]) <;> omega) ls hl
