set_option maxHeartbeats 8000000 in
set_option maxRecDepth 100000 in
theorem s_X11_pairOfSigns_k11 (l : Launch) (D : va_G) (cI cL cZ cR cG cH : ClassId) (Z : zT) (kd : Nat → Nat) (L : List Nat) (f : Nat → va_E) (hG : GI (okc cI cL cZ cR cG cH L kd) kd L f) (o0 : Nat) (mo0 : o0 ∈ L) (ko0 : kd o0 = 11) (p1 : Int32) (p2 : Int32) : mPI l D cI cL cZ cR cG cH Z yX11_pairOfSigns cX11_pairOfSigns 5 (some .int) 1 22 [.ref o0, .int p1, .int p2] L f (fun (r : Int32) (f9 : Nat → va_E) => f = f9 ∧ ((-1) ≤ r.toInt ∧ r.toInt ≤ 19)) := by
  obtain ⟨dC, dI⟩ := D
  refine Met.ofW (cc := cX11_pairOfSigns) (maxL := 5) (ret := (some .int)) (by decide) rfl ?_
  intro p e s m args below meth c s₁ B hml hv
  obtain ⟨rfl, hP, hK, hD0, hN, hZ⟩ := hv
  have hx := B.exec
  have hb := B.bytes
  have hr := B.returns
  have hU : ∀ w ∈ wsU, w.before _ s = true := fun w h => atoms_spec (ws := wU yX11_pairOfSigns cX11_pairOfSigns 5 (some .int)) B.pre w (List.mem_cons_of_mem _ h)
  have hown : s.vm.findClass RX11 = some m.cls := findClass_of_methodNamed B.named
  have hlocks := B.notSynchronized
  have hD := pl_in hD0
  have hS : va_S (fun q => q ∈ L) s.heap s.heap [] := va_S.rf
  have hl := lv_entry ([.ref o0, .int p1, .int p2]) (n := 5) (Nat.le_of_ble_eq_true rfl)
  rw [lg_entry_eq]
  generalize (lg_sl ([.ref o0, .int p1, .int p2]) ++ List.replicate (5 - (lg_sl ([.ref o0, .int p1, .int p2])).length) Slot.unset).toArray = ls at hl ⊢
  have hl : lv_has ls 5 [(0, .ref o0), (1, .int p1), (2, .int p2)] := hl
  have bp1 : ((-2147483648) ≤ p1.toInt ∧ p1.toInt ≤ 2147483647) := ⟨i32_lo _, i32_hi _⟩
  have bp2 : ((-2147483648) ≤ p2.toInt ∧ p2.toInt ≤ 2147483647) := ⟨i32_lo _, i32_hi _⟩
  refine lv_aload_n hx hb dX11_pairOfSigns_0 rfl (lv_at hl 0 rfl) ?_
  obtain ⟨a_2, v_3, a_4, a_5, a_6, a_7, a_8, a_9, v_10, a_11, a_12, a_13, v_14, v_15, a_16, v_17, a_18, a_19, v_20, hfo_1, ⟨ma_2, ka_2⟩, bv_3, ⟨ma_4, ka_4⟩, ⟨ma_5, ka_5⟩, ⟨ma_6, ka_6⟩, ⟨ma_7, ka_7⟩, ⟨ma_8, ka_8⟩, ⟨ma_9, ka_9⟩, bv_10, ⟨ma_11, ka_11⟩, ⟨ma_12, ka_12⟩, ⟨ma_13, ka_13⟩, bv_14, ⟨ma_16, ka_16⟩, bv_17, ⟨ma_18, ka_18⟩, ⟨ma_19, ka_19⟩⟩ := un_11 (hG _ mo0) ko0
  have bv_15 : ((-2147483648) ≤ v_15.toInt ∧ v_15.toInt ≤ 2147483647) := ⟨i32_lo _, i32_hi _⟩
  have bv_20 : ((-2147483648) ≤ v_20.toInt ∧ v_20.toInt ≤ 2147483647) := ⟨i32_lo _, i32_hi _⟩
  refine tk_getP (D := (dC, dI)) (ci := 11) (v := .ref a_5) (C := RX11) (T := TX11) (N := 19) hx hb hU inlX11 hown hK hP mo0 hfo_1 rfl 3 (by decide) (hU _ wd_19) (fun _ h9 => h9) rfl dX11_pairOfSigns_1 ?_
  refine lv_iload_n hx hb dX11_pairOfSigns_4 rfl (lv_at hl 1 rfl) ?_
  obtain ⟨a_22, v_23, a_24, a_25, a_26, a_27, v_28, a_29, a_30, a_31, a_32, a_33, v_34, a_35, a_36, a_37, hfo_21, ⟨ma_22, ka_22⟩, bv_23, ⟨ma_24, ka_24⟩, ⟨ma_25, ka_25⟩, ⟨ma_26, ka_26⟩, ⟨ma_27, ka_27⟩, bv_28, ⟨ma_29, ka_29⟩, ⟨ma_30, ka_30⟩, ⟨ma_31, ka_31⟩, ⟨ma_32, ka_32⟩, ⟨ma_33, ka_33⟩, bv_34, ⟨ma_35, ka_35⟩, ⟨ma_36, ka_36⟩, ⟨ma_37, ka_37⟩⟩ := un_7 (hG _ ma_5) ka_5
  refine tk_ViP (As := [.int p1]) (rest := []) (n := 1) hx hb hml hown hU hN hZ (s_X7_signOf_k7 l (dC, dI) cI cL cZ cR cG cH Z kd L f hG a_5 ma_5 ka_5 p1) wd_717 wd_346 wd_347 wd_28 wd_348 (by decide +kernel) ⟨Nat.le_of_ble_eq_true rfl, Nat.le_of_ble_eq_true rfl⟩ hK hP hD hS ma_5 hfo_21 7 rfl rfl rfl hl.1 rfl (Nat.le_of_ble_eq_true rfl) dX11_pairOfSigns_5 ⟨Nat.le_of_ble_eq_true rfl, Nat.le_of_ble_eq_true rfl⟩ (fun x_38 f_39 H locs hw hP hD hS => ?_)
  obtain ⟨rfl, bx_38⟩ := hw
  refine lv_istore_n (lv' := [(3, .int x_38), (0, .ref o0), (1, .int p1), (2, .int p2)]) hx hb dX11_pairOfSigns_8 rfl hl (by decide) rfl (fun ls hl => ?_)
  refine lv_aload_n hx hb dX11_pairOfSigns_9 rfl (lv_at hl 1 rfl) ?_
  refine tk_getP (D := (dC, dI)) (ci := 11) (v := .ref a_5) (C := RX11) (T := TX11) (N := 19) hx hb hU inlX11 hown hK hP mo0 hfo_1 rfl 3 (by decide) (hU _ wd_19) (fun _ h9 => h9) rfl dX11_pairOfSigns_10 ?_
  refine lv_iload_n hx hb dX11_pairOfSigns_13 rfl (lv_at hl 3 rfl) ?_
  refine tk_ViP (As := [.int p2]) (rest := []) (n := 1) hx hb hml hown hU hN hZ (s_X7_signOf_k7 l (dC, dI) cI cL cZ cR cG cH Z kd L f hG a_5 ma_5 ka_5 p2) wd_717 wd_346 wd_347 wd_28 wd_348 (by decide +kernel) ⟨Nat.le_of_ble_eq_true rfl, Nat.le_of_ble_eq_true rfl⟩ hK hP hD hS ma_5 hfo_21 7 rfl rfl rfl hl.1 rfl (Nat.le_of_ble_eq_true rfl) dX11_pairOfSigns_14 ⟨Nat.le_of_ble_eq_true rfl, Nat.le_of_ble_eq_true rfl⟩ (fun x_41 f_42 H locs hw hP hD hS => ?_)
  obtain ⟨rfl, bx_41⟩ := hw
  refine lv_istore (lv' := [(4, .int x_41), (3, .int x_38), (0, .ref o0), (1, .int p1), (2, .int p2)]) hx hb dX11_pairOfSigns_17 hl (by decide) rfl (fun ls hl => ?_)
  refine lv_iload_n hx hb dX11_pairOfSigns_19 rfl (lv_at hl 1 rfl) ?_
  refine lv_if_ne (tgt := 29) hx hb dX11_pairOfSigns_20 (by decide) (fun c_44 => ?_) (fun c_44 => ?_)
  · skip
    rw [← Int32.toInt_inj, ti_0] at c_44
    refine lv_iload hx hb dX11_pairOfSigns_29 (lv_at hl 0 rfl) ?_
    refine lv_if_ne (tgt := 42) hx hb dX11_pairOfSigns_31 (by decide) (fun c_45 => ?_) (fun c_45 => ?_)
    · skip
      rw [← Int32.toInt_inj, ti_0] at c_45
      refine lv_aload_n hx hb dX11_pairOfSigns_42 rfl (lv_at hl 2 rfl) ?_
      refine tk_getP (D := (dC, dI)) (ci := 11) (v := .ref a_5) (C := RX11) (T := TX11) (N := 19) hx hb hU inlX11 hown hK hP mo0 hfo_1 rfl 3 (by decide) (hU _ wd_19) (fun _ h9 => h9) rfl dX11_pairOfSigns_43 ?_
      refine lv_iload_n hx hb dX11_pairOfSigns_46 rfl (lv_at hl 1 rfl) ?_
      refine lv_iload hx hb dX11_pairOfSigns_47 (lv_at hl 0 rfl) ?_
      refine tk_ViP (As := [.int x_38, .int x_41]) (rest := []) (n := 2) hx hb hml hown hU hN hZ (s_X7_pairOf_k7 l (dC, dI) cI cL cZ cR cG cH Z kd L f hG a_5 ma_5 ka_5 x_38 x_41) wd_1079 wd_393 wd_394 wd_28 wd_395 (by decide +kernel) ⟨Nat.le_of_ble_eq_true rfl, Nat.le_of_ble_eq_true rfl⟩ hK hP hD hS ma_5 hfo_21 7 rfl rfl rfl hl.1 rfl (Nat.le_of_ble_eq_true rfl) dX11_pairOfSigns_49 ⟨Nat.le_of_ble_eq_true rfl, Nat.le_of_ble_eq_true rfl⟩ (fun x_46 f_47 H locs hw hP hD hS => ?_)
      obtain ⟨rfl, bx_46⟩ := hw
      exact W.iret (v := x_46) hx hb hr (fun t ht hW => ⟨⟨x_46, f, rfl, ⟨rfl, (by constructor <;> omega)⟩, by rw [ht]; exact hP, va_K.moved hW.alike hK, pl_in hD⟩, hS.F ht⟩) hS.2.2 dX11_pairOfSigns_52
    · skip
      rw [← Int32.toInt_inj, ti_0] at c_45
      refine lv_iload_n hx hb dX11_pairOfSigns_34 rfl (lv_at hl 4 rfl) ?_
      refine lv_bipush (v := 48) hx hb dX11_pairOfSigns_35 (by decide) ?_
      refine lv_icmp_eq (tgt := 42) hx hb dX11_pairOfSigns_37 (by decide) (fun c_49 => ?_) (fun c_49 => ?_)
      · skip
        rw [← Int32.toInt_inj, ti_48] at c_49
        refine lv_aload_n hx hb dX11_pairOfSigns_42 rfl (lv_at hl 2 rfl) ?_
        refine tk_getP (D := (dC, dI)) (ci := 11) (v := .ref a_5) (C := RX11) (T := TX11) (N := 19) hx hb hU inlX11 hown hK hP mo0 hfo_1 rfl 3 (by decide) (hU _ wd_19) (fun _ h9 => h9) rfl dX11_pairOfSigns_43 ?_
        refine lv_iload_n hx hb dX11_pairOfSigns_46 rfl (lv_at hl 1 rfl) ?_
        refine lv_iload hx hb dX11_pairOfSigns_47 (lv_at hl 0 rfl) ?_
        refine tk_ViP (As := [.int x_38, .int x_41]) (rest := []) (n := 2) hx hb hml hown hU hN hZ (s_X7_pairOf_k7 l (dC, dI) cI cL cZ cR cG cH Z kd L f hG a_5 ma_5 ka_5 x_38 x_41) wd_1079 wd_393 wd_394 wd_28 wd_395 (by decide +kernel) ⟨Nat.le_of_ble_eq_true rfl, Nat.le_of_ble_eq_true rfl⟩ hK hP hD hS ma_5 hfo_21 7 rfl rfl rfl hl.1 rfl (Nat.le_of_ble_eq_true rfl) dX11_pairOfSigns_49 ⟨Nat.le_of_ble_eq_true rfl, Nat.le_of_ble_eq_true rfl⟩ (fun x_50 f_51 H locs hw hP hD hS => ?_)
        obtain ⟨rfl, bx_50⟩ := hw
        exact W.iret (v := x_50) hx hb hr (fun t ht hW => ⟨⟨x_50, f, rfl, ⟨rfl, (by constructor <;> omega)⟩, by rw [ht]; exact hP, va_K.moved hW.alike hK, pl_in hD⟩, hS.F ht⟩) hS.2.2 dX11_pairOfSigns_52
      · skip
        rw [← Int32.toInt_inj, ti_48] at c_49
        refine lv_iconst (v := (-1)) hx hb dX11_pairOfSigns_40 (by decide) ?_
        exact W.iret (v := (-1)) hx hb hr (fun t ht hW => ⟨⟨(-1), f, rfl, ⟨rfl, (by decide)⟩, by rw [ht]; exact hP, va_K.moved hW.alike hK, pl_in hD⟩, hS.F ht⟩) hS.2.2 dX11_pairOfSigns_41
  · skip
    rw [← Int32.toInt_inj, ti_0] at c_44
    refine lv_iload_n hx hb dX11_pairOfSigns_23 rfl (lv_at hl 3 rfl) ?_
    refine lv_bipush (v := 48) hx hb dX11_pairOfSigns_24 (by decide) ?_
    refine lv_icmp_ne (tgt := 40) hx hb dX11_pairOfSigns_26 (by decide) (fun c_53 => ?_) (fun c_53 => ?_)
    · skip
      rw [← Int32.toInt_inj, ti_48] at c_53
      refine lv_iconst (v := (-1)) hx hb dX11_pairOfSigns_40 (by decide) ?_
      exact W.iret (v := (-1)) hx hb hr (fun t ht hW => ⟨⟨(-1), f, rfl, ⟨rfl, (by decide)⟩, by rw [ht]; exact hP, va_K.moved hW.alike hK, pl_in hD⟩, hS.F ht⟩) hS.2.2 dX11_pairOfSigns_41
    · skip
      rw [← Int32.toInt_inj, ti_48] at c_53
      refine lv_iload hx hb dX11_pairOfSigns_29 (lv_at hl 0 rfl) ?_
      refine lv_if_ne (tgt := 42) hx hb dX11_pairOfSigns_31 (by decide) (fun c_54 => ?_) (fun c_54 => ?_)
      · skip
        rw [← Int32.toInt_inj, ti_0] at c_54
        refine lv_aload_n hx hb dX11_pairOfSigns_42 rfl (lv_at hl 2 rfl) ?_
        refine tk_getP (D := (dC, dI)) (ci := 11) (v := .ref a_5) (C := RX11) (T := TX11) (N := 19) hx hb hU inlX11 hown hK hP mo0 hfo_1 rfl 3 (by decide) (hU _ wd_19) (fun _ h9 => h9) rfl dX11_pairOfSigns_43 ?_
        refine lv_iload_n hx hb dX11_pairOfSigns_46 rfl (lv_at hl 1 rfl) ?_
        refine lv_iload hx hb dX11_pairOfSigns_47 (lv_at hl 0 rfl) ?_
        refine tk_ViP (As := [.int x_38, .int x_41]) (rest := []) (n := 2) hx hb hml hown hU hN hZ (s_X7_pairOf_k7 l (dC, dI) cI cL cZ cR cG cH Z kd L f hG a_5 ma_5 ka_5 x_38 x_41) wd_1079 wd_393 wd_394 wd_28 wd_395 (by decide +kernel) ⟨Nat.le_of_ble_eq_true rfl, Nat.le_of_ble_eq_true rfl⟩ hK hP hD hS ma_5 hfo_21 7 rfl rfl rfl hl.1 rfl (Nat.le_of_ble_eq_true rfl) dX11_pairOfSigns_49 ⟨Nat.le_of_ble_eq_true rfl, Nat.le_of_ble_eq_true rfl⟩ (fun x_55 f_56 H locs hw hP hD hS => ?_)
        obtain ⟨rfl, bx_55⟩ := hw
        exact W.iret (v := x_55) hx hb hr (fun t ht hW => ⟨⟨x_55, f, rfl, ⟨rfl, (by constructor <;> omega)⟩, by rw [ht]; exact hP, va_K.moved hW.alike hK, pl_in hD⟩, hS.F ht⟩) hS.2.2 dX11_pairOfSigns_52
      · skip
        rw [← Int32.toInt_inj, ti_0] at c_54
        refine lv_iload_n hx hb dX11_pairOfSigns_34 rfl (lv_at hl 4 rfl) ?_
        refine lv_bipush (v := 48) hx hb dX11_pairOfSigns_35 (by decide) ?_
        refine lv_icmp_eq (tgt := 42) hx hb dX11_pairOfSigns_37 (by decide) (fun c_58 => ?_) (fun c_58 => ?_)
        · skip
          rw [← Int32.toInt_inj, ti_48] at c_58
          refine lv_aload_n hx hb dX11_pairOfSigns_42 rfl (lv_at hl 2 rfl) ?_
          refine tk_getP (D := (dC, dI)) (ci := 11) (v := .ref a_5) (C := RX11) (T := TX11) (N := 19) hx hb hU inlX11 hown hK hP mo0 hfo_1 rfl 3 (by decide) (hU _ wd_19) (fun _ h9 => h9) rfl dX11_pairOfSigns_43 ?_
          refine lv_iload_n hx hb dX11_pairOfSigns_46 rfl (lv_at hl 1 rfl) ?_
          refine lv_iload hx hb dX11_pairOfSigns_47 (lv_at hl 0 rfl) ?_
          refine tk_ViP (As := [.int x_38, .int x_41]) (rest := []) (n := 2) hx hb hml hown hU hN hZ (s_X7_pairOf_k7 l (dC, dI) cI cL cZ cR cG cH Z kd L f hG a_5 ma_5 ka_5 x_38 x_41) wd_1079 wd_393 wd_394 wd_28 wd_395 (by decide +kernel) ⟨Nat.le_of_ble_eq_true rfl, Nat.le_of_ble_eq_true rfl⟩ hK hP hD hS ma_5 hfo_21 7 rfl rfl rfl hl.1 rfl (Nat.le_of_ble_eq_true rfl) dX11_pairOfSigns_49 ⟨Nat.le_of_ble_eq_true rfl, Nat.le_of_ble_eq_true rfl⟩ (fun x_59 f_60 H locs hw hP hD hS => ?_)
          obtain ⟨rfl, bx_59⟩ := hw
          exact W.iret (v := x_59) hx hb hr (fun t ht hW => ⟨⟨x_59, f, rfl, ⟨rfl, (by constructor <;> omega)⟩, by rw [ht]; exact hP, va_K.moved hW.alike hK, pl_in hD⟩, hS.F ht⟩) hS.2.2 dX11_pairOfSigns_52
        · skip
          rw [← Int32.toInt_inj, ti_48] at c_58
          refine lv_iconst (v := (-1)) hx hb dX11_pairOfSigns_40 (by decide) ?_
          exact W.iret (v := (-1)) hx hb hr (fun t ht hW => ⟨⟨(-1), f, rfl, ⟨rfl, (by decide)⟩, by rw [ht]; exact hP, va_K.moved hW.alike hK, pl_in hD⟩, hS.F ht⟩) hS.2.2 dX11_pairOfSigns_41
set_option maxHeartbeats 8000000 in
set_option maxRecDepth 100000 in
theorem s_X11_takeRow_k11 (l : Launch) (D : va_G) (cI cL cZ cR cG cH : ClassId) (Z : zT) (kd : Nat → Nat) (L : List Nat) (f : Nat → va_E) (hG : GI (okc cI cL cZ cR cG cH L kd) kd L f) (o0 : Nat) (mo0 : o0 ∈ L) (ko0 : kd o0 = 11) : mPI l D cI cL cZ cR cG cH Z yX11_takeRow cX11_takeRow 4 (some .int) 2 46 [.ref o0] L f (fun (r : Int32) (f9 : Nat → va_E) => GI (okc cI cL cZ cR cG cH L kd) kd L f9 ∧ ((-1) ≤ r.toInt ∧ r.toInt ≤ 16) ∧ (∀ b, kd b ≠ 11 → kd b ≠ 540 → f9 b = f b) ∧ (∀ b, kd b = 11 → fldI (f9 b) 8 = fldI (f b) 8) ∧ (∀ b, kd b = 11 → fldR (f9 b) 2 = fldR (f b) 2) ∧ (∀ b, kd b = 11 → fldR (f9 b) 3 = fldR (f b) 3) ∧ (∀ b, kd b = 11 → fldR (f9 b) 5 = fldR (f b) 5) ∧ (∀ b, kd b = 11 → fldR (f9 b) 6 = fldR (f b) 6) ∧ (∀ b, kd b = 11 → fldR (f9 b) 7 = fldR (f b) 7) ∧ (∀ b, kd b = 11 → fldR (f9 b) 9 = fldR (f b) 9) ∧ (∀ b, kd b = 11 → fldR (f9 b) 10 = fldR (f b) 10) ∧ (∀ b, kd b = 11 → fldR (f9 b) 16 = fldR (f b) 16) ∧ (∀ (w1 z1 : Int32), fldI (f o0) 1 = some w1 → fldI (f9 o0) 1 = some z1 → z1.toInt = 0)) := by
  obtain ⟨dC, dI⟩ := D
  refine Met.ofW (cc := cX11_takeRow) (maxL := 4) (ret := (some .int)) (by decide) rfl ?_
  intro p e s m args below meth c s₁ B hml hv
  obtain ⟨rfl, hP, hK, hD0, hN, hZ⟩ := hv
  have hx := B.exec
  have hb := B.bytes
  have hr := B.returns
  have hU : ∀ w ∈ wsU, w.before _ s = true := fun w h => atoms_spec (ws := wU yX11_takeRow cX11_takeRow 4 (some .int)) B.pre w (List.mem_cons_of_mem _ h)
  have hown : s.vm.findClass RX11 = some m.cls := findClass_of_methodNamed B.named
  have hlocks := B.notSynchronized
  have hD := pl_in hD0
  have hS : va_S (fun q => q ∈ L) s.heap s.heap [] := va_S.rf
  have hl := lv_entry ([.ref o0]) (n := 4) (Nat.le_of_ble_eq_true rfl)
  rw [lg_entry_eq]
  generalize (lg_sl ([.ref o0]) ++ List.replicate (4 - (lg_sl ([.ref o0])).length) Slot.unset).toArray = ls at hl ⊢
  have hl : lv_has ls 4 [(0, .ref o0)] := hl
  have hfr0 : ∀ b, kd b ≠ 11 → kd b ≠ 540 → f b = f b := fun _ _ _ => rfl
  have hfr11_8 : ∀ b, kd b = 11 → fldI (f b) 8 = fldI (f b) 8 := fun _ _ => rfl
  have hrr11_2 : ∀ b, kd b = 11 → fldR (f b) 2 = fldR (f b) 2 := fun _ _ => rfl
  have hrr11_3 : ∀ b, kd b = 11 → fldR (f b) 3 = fldR (f b) 3 := fun _ _ => rfl
  have hrr11_5 : ∀ b, kd b = 11 → fldR (f b) 5 = fldR (f b) 5 := fun _ _ => rfl
  have hrr11_6 : ∀ b, kd b = 11 → fldR (f b) 6 = fldR (f b) 6 := fun _ _ => rfl
  have hrr11_7 : ∀ b, kd b = 11 → fldR (f b) 7 = fldR (f b) 7 := fun _ _ => rfl
  have hrr11_9 : ∀ b, kd b = 11 → fldR (f b) 9 = fldR (f b) 9 := fun _ _ => rfl
  have hrr11_10 : ∀ b, kd b = 11 → fldR (f b) 10 = fldR (f b) 10 := fun _ _ => rfl
  have hrr11_16 : ∀ b, kd b = 11 → fldR (f b) 16 = fldR (f b) 16 := fun _ _ => rfl
  obtain ⟨a_2, v_3, a_4, a_5, a_6, a_7, a_8, a_9, v_10, a_11, a_12, a_13, v_14, v_15, a_16, v_17, a_18, a_19, v_20, hfo_1, ⟨ma_2, ka_2⟩, bv_3, ⟨ma_4, ka_4⟩, ⟨ma_5, ka_5⟩, ⟨ma_6, ka_6⟩, ⟨ma_7, ka_7⟩, ⟨ma_8, ka_8⟩, ⟨ma_9, ka_9⟩, bv_10, ⟨ma_11, ka_11⟩, ⟨ma_12, ka_12⟩, ⟨ma_13, ka_13⟩, bv_14, ⟨ma_16, ka_16⟩, bv_17, ⟨ma_18, ka_18⟩, ⟨ma_19, ka_19⟩⟩ := un_11 (hG _ mo0) ko0
  have bv_15 : ((-2147483648) ≤ v_15.toInt ∧ v_15.toInt ≤ 2147483647) := ⟨i32_lo _, i32_hi _⟩
  have bv_20 : ((-2147483648) ≤ v_20.toInt ∧ v_20.toInt ≤ 2147483647) := ⟨i32_lo _, i32_hi _⟩
  refine lv_aload_n hx hb dX11_takeRow_0 rfl (lv_at hl 0 rfl) ?_
  refine tk_ViP (As := []) (rest := []) (n := 0) hx hb hml hown hU hN hZ (s_X11_emptyTape_k11 l (dC, dI) cI cL cZ cR cG cH Z kd L f hG o0 mo0 ko0) wd_239 wd_240 wd_241 wd_2 wd_242 (by decide +kernel) ⟨Nat.le_of_ble_eq_true rfl, Nat.le_of_ble_eq_true rfl⟩ hK hP hD hS mo0 hfo_1 11 rfl rfl rfl hl.1 rfl (Nat.le_of_ble_eq_true rfl) dX11_takeRow_1 ⟨Nat.le_of_ble_eq_true rfl, Nat.le_of_ble_eq_true rfl⟩ (fun x_21 f_22 H locs hw hP hD hS => ?_)
  obtain ⟨hG, bx_21, hkc_23, hfc_24, hrc_25, hrc_26, hrc_27, hrc_28, hrc_29, hrc_30, hrc_31, hrc_32, hpost_33⟩ := hw
  have hfr0 : ∀ b, kd b ≠ 11 → kd b ≠ 540 → f_22 b = f b := fun b q11 q540 => (hkc_23 b q11).trans (hfr0 b q11 q540)
  have hfr11_8 : ∀ b, kd b = 11 → fldI (f_22 b) 8 = fldI (f b) 8 := fun b kb => (hfc_24 b kb).trans (hfr11_8 b kb)
  have hrr11_2 : ∀ b, kd b = 11 → fldR (f_22 b) 2 = fldR (f b) 2 := fun b kb => (hrc_25 b kb).trans (hrr11_2 b kb)
  have hrr11_3 : ∀ b, kd b = 11 → fldR (f_22 b) 3 = fldR (f b) 3 := fun b kb => (hrc_26 b kb).trans (hrr11_3 b kb)
  have hrr11_5 : ∀ b, kd b = 11 → fldR (f_22 b) 5 = fldR (f b) 5 := fun b kb => (hrc_27 b kb).trans (hrr11_5 b kb)
  have hrr11_6 : ∀ b, kd b = 11 → fldR (f_22 b) 6 = fldR (f b) 6 := fun b kb => (hrc_28 b kb).trans (hrr11_6 b kb)
  have hrr11_7 : ∀ b, kd b = 11 → fldR (f_22 b) 7 = fldR (f b) 7 := fun b kb => (hrc_29 b kb).trans (hrr11_7 b kb)
  have hrr11_9 : ∀ b, kd b = 11 → fldR (f_22 b) 9 = fldR (f b) 9 := fun b kb => (hrc_30 b kb).trans (hrr11_9 b kb)
  have hrr11_10 : ∀ b, kd b = 11 → fldR (f_22 b) 10 = fldR (f b) 10 := fun b kb => (hrc_31 b kb).trans (hrr11_10 b kb)
  have hrr11_16 : ∀ b, kd b = 11 → fldR (f_22 b) 16 = fldR (f b) 16 := fun b kb => (hrc_32 b kb).trans (hrr11_16 b kb)
  obtain ⟨a_36, v_37, a_38, a_39, a_40, a_41, a_42, a_43, v_44, a_45, a_46, a_47, v_48, v_49, a_50, v_51, a_52, a_53, v_54, hfo_35, ⟨ma_36, ka_36⟩, bv_37, ⟨ma_38, ka_38⟩, ⟨ma_39, ka_39⟩, ⟨ma_40, ka_40⟩, ⟨ma_41, ka_41⟩, ⟨ma_42, ka_42⟩, ⟨ma_43, ka_43⟩, bv_44, ⟨ma_45, ka_45⟩, ⟨ma_46, ka_46⟩, ⟨ma_47, ka_47⟩, bv_48, ⟨ma_50, ka_50⟩, bv_51, ⟨ma_52, ka_52⟩, ⟨ma_53, ka_53⟩⟩ := un_11 (hG _ mo0) ko0
  have bv_49 : ((-2147483648) ≤ v_49.toInt ∧ v_49.toInt ≤ 2147483647) := ⟨i32_lo _, i32_hi _⟩
  have bv_54 : ((-2147483648) ≤ v_54.toInt ∧ v_54.toInt ≤ 2147483647) := ⟨i32_lo _, i32_hi _⟩
  obtain rfl : a_4 = a_38 := by have hk9 := hrr11_2 o0 ko0; rw [hfo_35, hfo_1] at hk9; exact (Option.some.inj hk9).symm
  obtain rfl : a_5 = a_39 := by have hk9 := hrr11_3 o0 ko0; rw [hfo_35, hfo_1] at hk9; exact (Option.some.inj hk9).symm
  obtain rfl : a_7 = a_41 := by have hk9 := hrr11_5 o0 ko0; rw [hfo_35, hfo_1] at hk9; exact (Option.some.inj hk9).symm
  obtain rfl : a_8 = a_42 := by have hk9 := hrr11_6 o0 ko0; rw [hfo_35, hfo_1] at hk9; exact (Option.some.inj hk9).symm
  obtain rfl : a_9 = a_43 := by have hk9 := hrr11_7 o0 ko0; rw [hfo_35, hfo_1] at hk9; exact (Option.some.inj hk9).symm
  obtain rfl : a_11 = a_45 := by have hk9 := hrr11_9 o0 ko0; rw [hfo_35, hfo_1] at hk9; exact (Option.some.inj hk9).symm
  obtain rfl : a_12 = a_46 := by have hk9 := hrr11_10 o0 ko0; rw [hfo_35, hfo_1] at hk9; exact (Option.some.inj hk9).symm
  obtain rfl : a_18 = a_52 := by have hk9 := hrr11_16 o0 ko0; rw [hfo_35, hfo_1] at hk9; exact (Option.some.inj hk9).symm
  obtain rfl : v_10 = v_44 := by have hk9 := hfc_24 o0 ko0; rw [hfo_35, hfo_1] at hk9; exact (Option.some.inj hk9).symm
  have hqhpost_33 := hpost_33 v_3 v_37 (by rw [hfo_1]; rfl) (by rw [hfo_35]; rfl)
  refine lv_istore_n (lv' := [(1, .int x_21), (0, .ref o0)]) hx hb dX11_takeRow_4 rfl hl (by decide) rfl (fun ls hl => ?_)
  refine lv_iload_n hx hb dX11_takeRow_5 rfl (lv_at hl 0 rfl) ?_
  refine lv_iconst (v := 2) hx hb dX11_takeRow_6 (by decide) ?_
  refine lv_icmp_lt (tgt := 22) hx hb dX11_takeRow_7 (by decide) (fun c_55 => ?_) (fun c_55 => ?_)
  · skip
    rw [Int32.lt_iff_toInt_lt, ti_2] at c_55
    refine lv_iconst (v := (-1)) hx hb dX11_takeRow_22 (by decide) ?_
    exact W.iret (v := (-1)) hx hb hr (fun t ht hW => ⟨⟨(-1), f_22, rfl, ⟨hG, (by decide), hfr0, hfr11_8, hrr11_2, hrr11_3, hrr11_5, hrr11_6, hrr11_7, hrr11_9, hrr11_10, hrr11_16, (by intro w1 z1 e1 d1; rw [hfo_1] at e1; rw [hfo_35] at d1; obtain rfl := Option.some.inj e1; obtain rfl := Option.some.inj d1; (try rw [ti_m1]) <;> omega)⟩, by rw [ht]; exact hP, va_K.moved hW.alike hK, pl_in hD⟩, hS.F ht⟩) hS.2.2 dX11_takeRow_23
  · skip
    rw [Int32.lt_iff_toInt_lt, ti_2] at c_55
    refine lv_iload_n hx hb dX11_takeRow_10 rfl (lv_at hl 0 rfl) ?_
    refine lv_bipush (v := 32) hx hb dX11_takeRow_11 (by decide) ?_
    refine lv_icmp_gt (tgt := 22) hx hb dX11_takeRow_13 (by decide) (fun c_56 => ?_) (fun c_56 => ?_)
    · skip
      rw [Int32.lt_iff_toInt_lt, ti_32] at c_56
      refine lv_iconst (v := (-1)) hx hb dX11_takeRow_22 (by decide) ?_
      exact W.iret (v := (-1)) hx hb hr (fun t ht hW => ⟨⟨(-1), f_22, rfl, ⟨hG, (by decide), hfr0, hfr11_8, hrr11_2, hrr11_3, hrr11_5, hrr11_6, hrr11_7, hrr11_9, hrr11_10, hrr11_16, (by intro w1 z1 e1 d1; rw [hfo_1] at e1; rw [hfo_35] at d1; obtain rfl := Option.some.inj e1; obtain rfl := Option.some.inj d1; (try rw [ti_m1]) <;> omega)⟩, by rw [ht]; exact hP, va_K.moved hW.alike hK, pl_in hD⟩, hS.F ht⟩) hS.2.2 dX11_takeRow_23
    · skip
      rw [Int32.lt_iff_toInt_lt, ti_32] at c_56
      refine lv_iload_n hx hb dX11_takeRow_16 rfl (lv_at hl 0 rfl) ?_
      refine lv_iconst (v := 2) hx hb dX11_takeRow_17 (by decide) ?_
      refine lv_irem hx hb dX11_takeRow_18 (by decide) ?_
      refine lv_topi (fun x_57 ex_57 => ?_)
      have hx_57 : x_57.toInt = x_21.toInt % 2 := by rw [ex_57, rm_I (by omega) (by rw [ti_2]; omega), ti_2]
      have bx_57 : (0 ≤ x_57.toInt ∧ x_57.toInt ≤ 1) := by constructor <;> omega
      refine lv_if_eq (tgt := 24) hx hb dX11_takeRow_19 (by decide) (fun c_58 => ?_) (fun c_58 => ?_)
      · skip
        rw [← Int32.toInt_inj, ti_0] at c_58
        refine lv_iconst (v := 0) hx hb dX11_takeRow_24 (by decide) ?_
        refine lv_istore_n (lv' := [(2, .int 0), (1, .int x_21), (0, .ref o0)]) hx hb dX11_takeRow_25 rfl hl (by decide) rfl (fun ls hl => ?_)
        have hloop_74 : ∀ (n : Nat), ∀ (y_75 : Int32), (0 ≤ y_75.toInt ∧ y_75.toInt ≤ 33) → ∀ (f_77 : Nat → va_E), GI (okc cI cL cZ cR cG cH L kd) kd L f_77 → ∀ (H : Heap) (locs : List Loc), va_P (dC, dI) vwCl (va_pl L f_77) H → va_S (fun q => q ∈ L) s.heap H locs → va_D (fun q => q ∈ L) (va_pl L f_77) → (∀ b, kd b ≠ 11 → kd b ≠ 540 → f_77 b = f b) → (∀ b, kd b = 11 → fldI (f_77 b) 8 = fldI (f b) 8) → (∀ b, kd b = 11 → fldR (f_77 b) 2 = fldR (f b) 2) → (∀ b, kd b = 11 → fldR (f_77 b) 3 = fldR (f b) 3) → (∀ b, kd b = 11 → fldR (f_77 b) 5 = fldR (f b) 5) → (∀ b, kd b = 11 → fldR (f_77 b) 6 = fldR (f b) 6) → (∀ b, kd b = 11 → fldR (f_77 b) 7 = fldR (f b) 7) → (∀ b, kd b = 11 → fldR (f_77 b) 9 = fldR (f b) 9) → (∀ b, kd b = 11 → fldR (f_77 b) 10 = fldR (f b) 10) → (∀ b, kd b = 11 → fldR (f_77 b) 16 = fldR (f b) 16) → (f_77 o0 = .inr (11, [.ref a_36, .int v_37, .ref a_4, .ref a_5, .ref a_40, .ref a_7, .ref a_8, .ref a_9, .int v_10, .ref a_11, .ref a_12, .ref a_47, .int v_48, .int v_49, .ref a_50, .int v_51, .ref a_18, .ref a_53, .int v_54])) → 33 - y_75.toInt < (n : Int) → ∀ (ls : Array Slot), lv_has ls 4 [(2, .int y_75), (1, .int x_21), (0, .ref o0)] → W p l e (headSpec (wU yX11_takeRow cX11_takeRow 4 (some .int)) { frames := 2, cells := 0, slots := 0, locals := 46 }).room s m [.ref o0].toArray below meth c H locs 0 0 (MQ below (va_Qi (fun (r : Int32) (f9 : Nat → va_E) => GI (okc cI cL cZ cR cG cH L kd) kd L f9 ∧ ((-1) ≤ r.toInt ∧ r.toInt ≤ 16) ∧ (∀ b, kd b ≠ 11 → kd b ≠ 540 → f9 b = f b) ∧ (∀ b, kd b = 11 → fldI (f9 b) 8 = fldI (f b) 8) ∧ (∀ b, kd b = 11 → fldR (f9 b) 2 = fldR (f b) 2) ∧ (∀ b, kd b = 11 → fldR (f9 b) 3 = fldR (f b) 3) ∧ (∀ b, kd b = 11 → fldR (f9 b) 5 = fldR (f b) 5) ∧ (∀ b, kd b = 11 → fldR (f9 b) 6 = fldR (f b) 6) ∧ (∀ b, kd b = 11 → fldR (f9 b) 7 = fldR (f b) 7) ∧ (∀ b, kd b = 11 → fldR (f9 b) 9 = fldR (f b) 9) ∧ (∀ b, kd b = 11 → fldR (f9 b) 10 = fldR (f b) 10) ∧ (∀ b, kd b = 11 → fldR (f9 b) 16 = fldR (f b) 16) ∧ (∀ (w1 z1 : Int32), fldI (f o0) 1 = some w1 → fldI (f9 o0) 1 = some z1 → z1.toInt = 0)) (qP (dC, dI) cI cL cZ cR cG cH L) (fun q => q ∈ L)) [.ref o0].toArray s 0 0 (fun q => q ∈ L)) (F0 m 26 ls []) := by
          intro n
          induction n with
          | zero => intro y_75 by_75 f_77 hG H locs hP hS hD hfr0 hfr11_8 hrr11_2 hrr11_3 hrr11_5 hrr11_6 hrr11_7 hrr11_9 hrr11_10 hrr11_16 hfo_78 hmuhloop_74 ls hl; exfalso; omega
          | succ n ih_hloop_74 =>
            intro y_75 by_75 f_77 hG H locs hP hS hD hfr0 hfr11_8 hrr11_2 hrr11_3 hrr11_5 hrr11_6 hrr11_7 hrr11_9 hrr11_10 hrr11_16 hfo_78 hmuhloop_74 ls hl
            refine lv_iload_n hx hb dX11_takeRow_26 rfl (lv_at hl 0 rfl) ?_
            refine lv_iload_n hx hb dX11_takeRow_27 rfl (lv_at hl 1 rfl) ?_
            refine lv_icmp_ge (tgt := 72) hx hb dX11_takeRow_28 (by decide) (fun c_79 => ?_) (fun c_79 => ?_)
            · skip
              rw [Int32.le_iff_toInt_le] at c_79
              refine lv_iload_n hx hb dX11_takeRow_72 rfl (lv_at hl 1 rfl) ?_
              refine lv_iconst (v := 2) hx hb dX11_takeRow_73 (by decide) ?_
              refine lv_idiv hx hb dX11_takeRow_74 (by decide) ?_
              refine lv_topi (fun x_80 ex_80 => ?_)
              have hx_80 : x_80.toInt = x_21.toInt / 2 := by rw [ex_80, dv_I (by omega) (by rw [ti_2]; omega), ti_2]
              have bx_80 : (1 ≤ x_80.toInt ∧ x_80.toInt ≤ 16) := by constructor <;> omega
              exact W.iret (v := x_80) hx hb hr (fun t ht hW => ⟨⟨x_80, f_77, rfl, ⟨hG, (by constructor <;> omega), hfr0, hfr11_8, hrr11_2, hrr11_3, hrr11_5, hrr11_6, hrr11_7, hrr11_9, hrr11_10, hrr11_16, (by intro w1 z1 e1 d1; rw [hfo_1] at e1; rw [hfo_78] at d1; obtain rfl := Option.some.inj e1; obtain rfl := Option.some.inj d1; omega)⟩, by rw [ht]; exact hP, va_K.moved hW.alike hK, pl_in hD⟩, hS.F ht⟩) hS.2.2 dX11_takeRow_75
            · skip
              rw [Int32.le_iff_toInt_le] at c_79
              refine lv_aload_n hx hb dX11_takeRow_31 rfl (lv_at hl 2 rfl) ?_
              refine lv_aload_n hx hb dX11_takeRow_32 rfl (lv_at hl 2 rfl) ?_
              refine tk_getP (D := (dC, dI)) (ci := 11) (v := .ref a_36) (C := RX11) (T := TX11) (N := 19) hx hb hU inlX11 hown hK hP mo0 hfo_78 rfl 0 (by decide) (hU _ wd_13) (fun _ h9 => h9) rfl dX11_takeRow_33 ?_
              refine lv_iload_n hx hb dX11_takeRow_36 rfl (lv_at hl 0 rfl) ?_
              obtain ⟨g_82, hfo_81, hbg_82⟩ := un_533 (hG _ ma_36) ka_36
              refine tk_ildP hx hb hK hP 0 ma_36 hfo_81 rfl (vp_in_iff.mpr (by constructor <;> omega)) dX11_takeRow_37 ?_
              refine lv_topi (fun x_83 ex_83 => ?_)
              have bx_83 : ((-2147483648) ≤ x_83.toInt ∧ x_83.toInt ≤ 2147483647) := ⟨i32_lo _, i32_hi _⟩
              refine lv_aload_n hx hb dX11_takeRow_38 rfl (lv_at hl 2 rfl) ?_
              refine tk_getP (D := (dC, dI)) (ci := 11) (v := .ref a_36) (C := RX11) (T := TX11) (N := 19) hx hb hU inlX11 hown hK hP mo0 hfo_78 rfl 0 (by decide) (hU _ wd_13) (fun _ h9 => h9) rfl dX11_takeRow_39 ?_
              refine lv_iload_n hx hb dX11_takeRow_42 rfl (lv_at hl 0 rfl) ?_
              refine lv_iconst (v := 1) hx hb dX11_takeRow_43 (by decide) ?_
              refine lv_iadd hx hb dX11_takeRow_44 ?_
              refine lv_topi (fun x_84 ex_84 => ?_)
              have hx_84 : x_84.toInt = y_75.toInt + 1 := by rw [ex_84, ad_I (by rw [ti_1]; omega) (by rw [ti_1]; omega), ti_1]
              have bx_84 : (1 ≤ x_84.toInt ∧ x_84.toInt ≤ 32) := by constructor <;> omega
              refine tk_ildP hx hb hK hP 0 ma_36 hfo_81 rfl (vp_in_iff.mpr (by constructor <;> omega)) dX11_takeRow_45 ?_
              refine lv_topi (fun x_85 ex_85 => ?_)
              have bx_85 : ((-2147483648) ≤ x_85.toInt ∧ x_85.toInt ≤ 2147483647) := ⟨i32_lo _, i32_hi _⟩
              refine tk_ViP (As := [.int x_83, .int x_85]) (rest := []) (n := 2) hx hb hml hown hU hN hZ (s_X11_pairOfSigns_k11 l (dC, dI) cI cL cZ cR cG cH Z kd L f_77 hG o0 mo0 ko0 x_83 x_85) wd_1075 wd_1076 wd_1077 wd_2 wd_1078 (by decide +kernel) ⟨Nat.le_of_ble_eq_true rfl, Nat.le_of_ble_eq_true rfl⟩ hK hP hD hS mo0 hfo_78 11 rfl rfl rfl hl.1 rfl (Nat.le_of_ble_eq_true rfl) dX11_takeRow_46 ⟨Nat.le_of_ble_eq_true rfl, Nat.le_of_ble_eq_true rfl⟩ (fun x_86 f_87 H locs hw hP hD hS => ?_)
              obtain ⟨rfl, bx_86⟩ := hw
              refine lv_istore_n (lv' := [(3, .int x_86), (2, .int y_75), (1, .int x_21), (0, .ref o0)]) hx hb dX11_takeRow_49 rfl hl (by decide) rfl (fun ls hl => ?_)
              refine lv_iload_n hx hb dX11_takeRow_50 rfl (lv_at hl 0 rfl) ?_
              refine lv_iconst (v := (-1)) hx hb dX11_takeRow_51 (by decide) ?_
              refine lv_icmp_ne (tgt := 57) hx hb dX11_takeRow_52 (by decide) (fun c_89 => ?_) (fun c_89 => ?_)
              · skip
                rw [← Int32.toInt_inj, ti_m1] at c_89
                refine lv_aload_n hx hb dX11_takeRow_57 rfl (lv_at hl 3 rfl) ?_
                refine tk_getP (D := (dC, dI)) (ci := 11) (v := .ref a_18) (C := RX11) (T := TX11) (N := 19) hx hb hU inlX11 hown hK hP mo0 hfo_78 rfl 16 (by decide) (hU _ wd_42) (fun _ h9 => h9) rfl dX11_takeRow_58 ?_
                refine lv_iload_n hx hb dX11_takeRow_61 rfl (lv_at hl 1 rfl) ?_
                refine lv_iconst (v := 2) hx hb dX11_takeRow_62 (by decide) ?_
                refine lv_idiv hx hb dX11_takeRow_63 (by decide) ?_
                refine lv_topi (fun x_90 ex_90 => ?_)
                have hx_90 : x_90.toInt = y_75.toInt / 2 := by rw [ex_90, dv_I (by omega) (by rw [ti_2]; omega), ti_2]
                have bx_90 : (0 ≤ x_90.toInt ∧ x_90.toInt ≤ 15) := by constructor <;> omega
                refine lv_iload_n hx hb dX11_takeRow_64 rfl (lv_at hl 0 rfl) ?_
                obtain ⟨g_92, hfo_91, hbg_92⟩ := un_540 (hG _ ma_18) ka_18
                refine tk_istP hx hb hK hP hD hS 0 ma_18 hfo_91 rfl (vp_in_iff.mpr (by constructor <;> omega)) dX11_takeRow_65 (fun H locs hP hD hS => ?_)
                obtain ⟨f_94, ef_94⟩ : ∃ y : Nat → va_E, y = va_up f_77 a_18 (.inl (cI, 16, .inl (upd g_92 (Int32.toNatClampNeg x_90) x_86))) := ⟨_, rfl⟩
                have hP : va_P (dC, dI) vwCl (va_pl L f_94) H := by rw [ef_94]; exact hP
                have hD : va_D (fun q => q ∈ L) (va_pl L f_94) := by rw [ef_94]; exact hD
                have hG : GI (okc cI cL cZ cR cG cH L kd) kd L f_94 := by rw [ef_94]; exact hG.set a_18 (mk_540 ka_18 ⟨_, rfl, okI_up hbg_92 (by constructor <;> omega) _⟩)
                have hfo_95 : f_94 o0 = .inr (11, [.ref a_36, .int v_37, .ref a_4, .ref a_5, .ref a_40, .ref a_7, .ref a_8, .ref a_9, .int v_10, .ref a_11, .ref a_12, .ref a_47, .int v_48, .int v_49, .ref a_50, .int v_51, .ref a_18, .ref a_53, .int v_54]) := by rw [ef_94, up_ne (kd_ne ka_18 ko0 (by decide))]; exact hfo_78
                have hfo_96 : f_94 a_36 = .inl (cI, 600, .inl g_82) := by rw [ef_94, up_ne (kd_ne ka_18 ka_36 (by decide))]; exact hfo_81
                have hfr0 : ∀ b, kd b ≠ 11 → kd b ≠ 540 → f_94 b = f b := fun b q11 q540 => (congrFun ef_94 b).trans ((up_ne (fun e9 => q540 (by rw [e9]; exact ka_18))).trans (hfr0 b q11 q540))
                have hfr11_8 : ∀ b, kd b = 11 → fldI (f_94 b) 8 = fldI (f b) 8 := fun b kb => (congrArg (fun x => fldI x 8) ((congrFun ef_94 b).trans (up_ne (kd_ne ka_18 kb (by decide))))).trans (hfr11_8 b kb)
                have hrr11_2 : ∀ b, kd b = 11 → fldR (f_94 b) 2 = fldR (f b) 2 := fun b kb => (congrArg (fun x => fldR x 2) ((congrFun ef_94 b).trans (up_ne (kd_ne ka_18 kb (by decide))))).trans (hrr11_2 b kb)
                have hrr11_3 : ∀ b, kd b = 11 → fldR (f_94 b) 3 = fldR (f b) 3 := fun b kb => (congrArg (fun x => fldR x 3) ((congrFun ef_94 b).trans (up_ne (kd_ne ka_18 kb (by decide))))).trans (hrr11_3 b kb)
                have hrr11_5 : ∀ b, kd b = 11 → fldR (f_94 b) 5 = fldR (f b) 5 := fun b kb => (congrArg (fun x => fldR x 5) ((congrFun ef_94 b).trans (up_ne (kd_ne ka_18 kb (by decide))))).trans (hrr11_5 b kb)
                have hrr11_6 : ∀ b, kd b = 11 → fldR (f_94 b) 6 = fldR (f b) 6 := fun b kb => (congrArg (fun x => fldR x 6) ((congrFun ef_94 b).trans (up_ne (kd_ne ka_18 kb (by decide))))).trans (hrr11_6 b kb)
                have hrr11_7 : ∀ b, kd b = 11 → fldR (f_94 b) 7 = fldR (f b) 7 := fun b kb => (congrArg (fun x => fldR x 7) ((congrFun ef_94 b).trans (up_ne (kd_ne ka_18 kb (by decide))))).trans (hrr11_7 b kb)
                have hrr11_9 : ∀ b, kd b = 11 → fldR (f_94 b) 9 = fldR (f b) 9 := fun b kb => (congrArg (fun x => fldR x 9) ((congrFun ef_94 b).trans (up_ne (kd_ne ka_18 kb (by decide))))).trans (hrr11_9 b kb)
                have hrr11_10 : ∀ b, kd b = 11 → fldR (f_94 b) 10 = fldR (f b) 10 := fun b kb => (congrArg (fun x => fldR x 10) ((congrFun ef_94 b).trans (up_ne (kd_ne ka_18 kb (by decide))))).trans (hrr11_10 b kb)
                have hrr11_16 : ∀ b, kd b = 11 → fldR (f_94 b) 16 = fldR (f b) 16 := fun b kb => (congrArg (fun x => fldR x 16) ((congrFun ef_94 b).trans (up_ne (kd_ne ka_18 kb (by decide))))).trans (hrr11_16 b kb)
                have hfo_97 : f_94 a_18 = .inl (cI, 16, .inl (upd g_92 (Int32.toNatClampNeg x_90) x_86)) := by rw [ef_94]; exact up_self
                obtain ⟨x_98, ex_98⟩ : ∃ y : Int32, y_75 + 2 = y := ⟨_, rfl⟩
                have hx_98 : x_98.toInt = y_75.toInt + 2 := by rw [← ex_98, ad_I (by rw [ti_2]; omega) (by rw [ti_2]; omega), ti_2]
                have bx_98 : (2 ≤ x_98.toInt ∧ x_98.toInt ≤ 33) := by constructor <;> omega
                refine lv_iinc (v := x_98) (lv' := [(2, .int x_98), (3, .int x_86), (1, .int x_21), (0, .ref o0)]) hx hb dX11_takeRow_66 hl (k := 1) rfl ex_98 (by decide) rfl (fun ls hl => ?_)
                refine lv_goto (tgt := 26) hx hb dX11_takeRow_69 (by decide) ?_
                exact ih_hloop_74 x_98 (by constructor <;> omega) f_94 hG _ _ hP hS hD hfr0 hfr11_8 hrr11_2 hrr11_3 hrr11_5 hrr11_6 hrr11_7 hrr11_9 hrr11_10 hrr11_16 hfo_95 (by omega) ls (lv_sub hl [0, 2, 3] rfl)
              · skip
                rw [← Int32.toInt_inj, ti_m1] at c_89
                refine lv_iconst (v := (-1)) hx hb dX11_takeRow_55 (by decide) ?_
                exact W.iret (v := (-1)) hx hb hr (fun t ht hW => ⟨⟨(-1), f_77, rfl, ⟨hG, (by decide), hfr0, hfr11_8, hrr11_2, hrr11_3, hrr11_5, hrr11_6, hrr11_7, hrr11_9, hrr11_10, hrr11_16, (by intro w1 z1 e1 d1; rw [hfo_1] at e1; rw [hfo_78] at d1; obtain rfl := Option.some.inj e1; obtain rfl := Option.some.inj d1; (try rw [ti_m1]) <;> omega)⟩, by rw [ht]; exact hP, va_K.moved hW.alike hK, pl_in hD⟩, hS.F ht⟩) hS.2.2 dX11_takeRow_56
        exact hloop_74 34 0 (by decide) f_22 hG _ _ hP hS hD hfr0 hfr11_8 hrr11_2 hrr11_3 hrr11_5 hrr11_6 hrr11_7 hrr11_9 hrr11_10 hrr11_16 hfo_35 (by (try rw [ti_0]) <;> omega) ls hl
      · skip
        rw [← Int32.toInt_inj, ti_0] at c_58
        refine lv_iconst (v := (-1)) hx hb dX11_takeRow_22 (by decide) ?_
        exact W.iret (v := (-1)) hx hb hr (fun t ht hW => ⟨⟨(-1), f_22, rfl, ⟨hG, (by decide), hfr0, hfr11_8, hrr11_2, hrr11_3, hrr11_5, hrr11_6, hrr11_7, hrr11_9, hrr11_10, hrr11_16, (by intro w1 z1 e1 d1; rw [hfo_1] at e1; rw [hfo_35] at d1; obtain rfl := Option.some.inj e1; obtain rfl := Option.some.inj d1; (try rw [ti_m1]) <;> omega)⟩, by rw [ht]; exact hP, va_K.moved hW.alike hK, pl_in hD⟩, hS.F ht⟩) hS.2.2 dX11_takeRow_23
set_option maxHeartbeats 8000000 in
set_option maxRecDepth 100000 in
theorem s_X11_quarrel_k11 (l : Launch) (D : va_G) (cI cL cZ cR cG cH : ClassId) (Z : zT) (kd : Nat → Nat) (L : List Nat) (f : Nat → va_E) (hG : GI (okc cI cL cZ cR cG cH L kd) kd L f) (o0 : Nat) (mo0 : o0 ∈ L) (ko0 : kd o0 = 11) (p1 : Int32) (p2 : Int32) : mPI l D cI cL cZ cR cG cH Z yX11_quarrel cX11_quarrel 5 (some .int) 5 143 [.ref o0, .int p1, .int p2] L f (fun (r : Int32) (f9 : Nat → va_E) => f = f9 ∧ ((-2147483648) ≤ r.toInt ∧ r.toInt ≤ 2147483647)) := by
  obtain ⟨dC, dI⟩ := D
  refine Met.ofW (cc := cX11_quarrel) (maxL := 5) (ret := (some .int)) (by decide) rfl ?_
  intro p e s m args below meth c s₁ B hml hv
  obtain ⟨rfl, hP, hK, hD0, hN, hZ⟩ := hv
  have hx := B.exec
  have hb := B.bytes
  have hr := B.returns
  have hU : ∀ w ∈ wsU, w.before _ s = true := fun w h => atoms_spec (ws := wU yX11_quarrel cX11_quarrel 5 (some .int)) B.pre w (List.mem_cons_of_mem _ h)
  have hown : s.vm.findClass RX11 = some m.cls := findClass_of_methodNamed B.named
  have hlocks := B.notSynchronized
  have hD := pl_in hD0
  have hS : va_S (fun q => q ∈ L) s.heap s.heap [] := va_S.rf
  have hl := lv_entry ([.ref o0, .int p1, .int p2]) (n := 5) (Nat.le_of_ble_eq_true rfl)
  rw [lg_entry_eq]
  generalize (lg_sl ([.ref o0, .int p1, .int p2]) ++ List.replicate (5 - (lg_sl ([.ref o0, .int p1, .int p2])).length) Slot.unset).toArray = ls at hl ⊢
  have hl : lv_has ls 5 [(0, .ref o0), (1, .int p1), (2, .int p2)] := hl
  have bp1 : ((-2147483648) ≤ p1.toInt ∧ p1.toInt ≤ 2147483647) := ⟨i32_lo _, i32_hi _⟩
  have bp2 : ((-2147483648) ≤ p2.toInt ∧ p2.toInt ≤ 2147483647) := ⟨i32_lo _, i32_hi _⟩
  refine lv_aload_n hx hb dX11_quarrel_0 rfl (lv_at hl 0 rfl) ?_
  refine lv_iload_n hx hb dX11_quarrel_1 rfl (lv_at hl 1 rfl) ?_
  obtain ⟨a_2, v_3, a_4, a_5, a_6, a_7, a_8, a_9, v_10, a_11, a_12, a_13, v_14, v_15, a_16, v_17, a_18, a_19, v_20, hfo_1, ⟨ma_2, ka_2⟩, bv_3, ⟨ma_4, ka_4⟩, ⟨ma_5, ka_5⟩, ⟨ma_6, ka_6⟩, ⟨ma_7, ka_7⟩, ⟨ma_8, ka_8⟩, ⟨ma_9, ka_9⟩, bv_10, ⟨ma_11, ka_11⟩, ⟨ma_12, ka_12⟩, ⟨ma_13, ka_13⟩, bv_14, ⟨ma_16, ka_16⟩, bv_17, ⟨ma_18, ka_18⟩, ⟨ma_19, ka_19⟩⟩ := un_11 (hG _ mo0) ko0
  have bv_15 : ((-2147483648) ≤ v_15.toInt ∧ v_15.toInt ≤ 2147483647) := ⟨i32_lo _, i32_hi _⟩
  have bv_20 : ((-2147483648) ≤ v_20.toInt ∧ v_20.toInt ≤ 2147483647) := ⟨i32_lo _, i32_hi _⟩
  refine tk_ViP (As := [.int p1]) (rest := []) (n := 1) hx hb hml hown hU hN hZ (s_X11_isRule_k11 l (dC, dI) cI cL cZ cR cG cH Z kd L f hG o0 mo0 ko0 p1) wd_1135 wd_1136 wd_1137 wd_2 wd_1138 (by decide +kernel) ⟨Nat.le_of_ble_eq_true rfl, Nat.le_of_ble_eq_true rfl⟩ hK hP hD hS mo0 hfo_1 11 rfl rfl rfl hl.1 rfl (Nat.le_of_ble_eq_true rfl) dX11_quarrel_2 ⟨Nat.le_of_ble_eq_true rfl, Nat.le_of_ble_eq_true rfl⟩ (fun x_21 f_22 H locs hw hP hD hS => ?_)
  obtain ⟨rfl, bx_21, relx_21⟩ := hw
  refine lv_if_eq (tgt := 21) hx hb dX11_quarrel_5 (by decide) (fun c_24 => ?_) (fun c_24 => ?_)
  · skip
    rw [← Int32.toInt_inj, ti_0] at c_24
    refine lv_iconst (v := (-1)) hx hb dX11_quarrel_21 (by decide) ?_
    exact W.iret (v := (-1)) hx hb hr (fun t ht hW => ⟨⟨(-1), f, rfl, ⟨rfl, (by decide)⟩, by rw [ht]; exact hP, va_K.moved hW.alike hK, pl_in hD⟩, hS.F ht⟩) hS.2.2 dX11_quarrel_22
  · skip
    rw [← Int32.toInt_inj, ti_0] at c_24
    refine lv_aload_n hx hb dX11_quarrel_8 rfl (lv_at hl 0 rfl) ?_
    refine lv_iload_n hx hb dX11_quarrel_9 rfl (lv_at hl 2 rfl) ?_
    refine tk_ViP (As := [.int p2]) (rest := []) (n := 1) hx hb hml hown hU hN hZ (s_X11_isRule_k11 l (dC, dI) cI cL cZ cR cG cH Z kd L f hG o0 mo0 ko0 p2) wd_1135 wd_1136 wd_1137 wd_2 wd_1138 (by decide +kernel) ⟨Nat.le_of_ble_eq_true rfl, Nat.le_of_ble_eq_true rfl⟩ hK hP hD hS mo0 hfo_1 11 rfl rfl rfl hl.1 rfl (Nat.le_of_ble_eq_true rfl) dX11_quarrel_10 ⟨Nat.le_of_ble_eq_true rfl, Nat.le_of_ble_eq_true rfl⟩ (fun x_25 f_26 H locs hw hP hD hS => ?_)
    obtain ⟨rfl, bx_25, relx_25⟩ := hw
    refine lv_if_eq (tgt := 21) hx hb dX11_quarrel_13 (by decide) (fun c_28 => ?_) (fun c_28 => ?_)
    · skip
      rw [← Int32.toInt_inj, ti_0] at c_28
      refine lv_iconst (v := (-1)) hx hb dX11_quarrel_21 (by decide) ?_
      exact W.iret (v := (-1)) hx hb hr (fun t ht hW => ⟨⟨(-1), f, rfl, ⟨rfl, (by decide)⟩, by rw [ht]; exact hP, va_K.moved hW.alike hK, pl_in hD⟩, hS.F ht⟩) hS.2.2 dX11_quarrel_22
    · skip
      rw [← Int32.toInt_inj, ti_0] at c_28
      refine lv_iload_n hx hb dX11_quarrel_16 rfl (lv_at hl 1 rfl) ?_
      refine lv_iload_n hx hb dX11_quarrel_17 rfl (lv_at hl 2 rfl) ?_
      refine lv_icmp_ne (tgt := 23) hx hb dX11_quarrel_18 (by decide) (fun c_29 => ?_) (fun c_29 => ?_)
      · skip
        rw [← Int32.toInt_inj] at c_29
        refine lv_aload_n hx hb dX11_quarrel_23 rfl (lv_at hl 0 rfl) ?_
        refine tk_getP (D := (dC, dI)) (ci := 11) (v := .ref a_5) (C := RX11) (T := TX11) (N := 19) hx hb hU inlX11 hown hK hP mo0 hfo_1 rfl 3 (by decide) (hU _ wd_19) (fun _ h9 => h9) rfl dX11_quarrel_24 ?_
        obtain ⟨a_31, v_32, a_33, a_34, a_35, a_36, v_37, a_38, a_39, a_40, a_41, a_42, v_43, a_44, a_45, a_46, hfo_30, ⟨ma_31, ka_31⟩, bv_32, ⟨ma_33, ka_33⟩, ⟨ma_34, ka_34⟩, ⟨ma_35, ka_35⟩, ⟨ma_36, ka_36⟩, bv_37, ⟨ma_38, ka_38⟩, ⟨ma_39, ka_39⟩, ⟨ma_40, ka_40⟩, ⟨ma_41, ka_41⟩, ⟨ma_42, ka_42⟩, bv_43, ⟨ma_44, ka_44⟩, ⟨ma_45, ka_45⟩, ⟨ma_46, ka_46⟩⟩ := un_7 (hG _ ma_5) ka_5
        refine tk_getP (D := (dC, dI)) (ci := 7) (v := .ref a_42) (C := RX7) (T := TX7) (N := 16) hx hb hU inlX7 hown hK hP ma_5 hfo_30 rfl 11 (by decide) (hU _ wd_1070) (fun _ h9 => h9) rfl dX11_quarrel_27 ?_
        refine lv_iload_n hx hb dX11_quarrel_30 rfl (lv_at hl 1 rfl) ?_
        obtain ⟨g_48, hfo_47, hbg_48⟩ := un_515 (hG _ ma_42) ka_42
        obtain ⟨a_49, hga_49, ma_49, ka_49⟩ := hbg_48 (Int32.toNatClampNeg p1) (in_lt (vp_in_iff.mpr (by constructor <;> omega)))
        refine tk_aldP hx hb hK hP 3 ma_42 hfo_47 rfl (vp_in_iff.mpr (by constructor <;> omega)) hga_49 dX11_quarrel_31 ?_
        refine lv_astore_n (lv' := [(3, .ref a_49), (0, .ref o0), (1, .int p1), (2, .int p2)]) hx hb dX11_quarrel_32 rfl hl (by decide) rfl (fun ls hl => ?_)
        refine lv_aload_n hx hb dX11_quarrel_33 rfl (lv_at hl 1 rfl) ?_
        refine tk_getP (D := (dC, dI)) (ci := 11) (v := .ref a_5) (C := RX11) (T := TX11) (N := 19) hx hb hU inlX11 hown hK hP mo0 hfo_1 rfl 3 (by decide) (hU _ wd_19) (fun _ h9 => h9) rfl dX11_quarrel_34 ?_
        refine tk_getP (D := (dC, dI)) (ci := 7) (v := .ref a_42) (C := RX7) (T := TX7) (N := 16) hx hb hU inlX7 hown hK hP ma_5 hfo_30 rfl 11 (by decide) (hU _ wd_1070) (fun _ h9 => h9) rfl dX11_quarrel_37 ?_
        refine lv_iload_n hx hb dX11_quarrel_40 rfl (lv_at hl 3 rfl) ?_
        obtain ⟨a_50, hga_50, ma_50, ka_50⟩ := hbg_48 (Int32.toNatClampNeg p2) (in_lt (vp_in_iff.mpr (by constructor <;> omega)))
        refine tk_aldP hx hb hK hP 3 ma_42 hfo_47 rfl (vp_in_iff.mpr (by constructor <;> omega)) hga_50 dX11_quarrel_41 ?_
        refine lv_astore (lv' := [(4, .ref a_50), (3, .ref a_49), (0, .ref o0), (1, .int p1), (2, .int p2)]) hx hb dX11_quarrel_42 hl (by decide) rfl (fun ls hl => ?_)
        refine lv_aload_n hx hb dX11_quarrel_44 rfl (lv_at hl 1 rfl) ?_
        refine lv_aload hx hb dX11_quarrel_45 (lv_at hl 0 rfl) ?_
        obtain ⟨v_52, v_53, v_54, v_55, a_56, a_57, a_58, a_59, v_60, v_61, v_62, hfo_51, bv_52, bv_53, bv_54, bv_55, ⟨ma_56, ka_56⟩, ⟨ma_57, ka_57⟩, ⟨ma_58, ka_58⟩, ⟨ma_59, ka_59⟩⟩ := un_4 (hG _ ma_49) ka_49
        have bv_60 : ((-2147483648) ≤ v_60.toInt ∧ v_60.toInt ≤ 2147483647) := ⟨i32_lo _, i32_hi _⟩
        have bv_61 : ((-2147483648) ≤ v_61.toInt ∧ v_61.toInt ≤ 2147483647) := ⟨i32_lo _, i32_hi _⟩
        have bv_62 : ((-2147483648) ≤ v_62.toInt ∧ v_62.toInt ≤ 2147483647) := ⟨i32_lo _, i32_hi _⟩
        refine tk_ViP (As := [.ref a_50]) (rest := []) (n := 1) hx hb hml hown hU hN hZ (s_X4_mayClash_k4_k4 l (dC, dI) cI cL cZ cR cG cH Z kd L f hG a_49 ma_49 ka_49 a_50 ma_50 ka_50) wd_1260 wd_1261 wd_1262 wd_90 wd_1263 (by decide +kernel) ⟨Nat.le_of_ble_eq_true rfl, Nat.le_of_ble_eq_true rfl⟩ hK hP hD hS ma_49 hfo_51 4 rfl rfl rfl hl.1 rfl (Nat.le_of_ble_eq_true rfl) dX11_quarrel_47 ⟨Nat.le_of_ble_eq_true rfl, Nat.le_of_ble_eq_true rfl⟩ (fun x_63 f_64 H locs hw hP hD hS => ?_)
        obtain ⟨rfl, bx_63⟩ := hw
        refine lv_if_eq (tgt := 69) hx hb dX11_quarrel_50 (by decide) (fun c_66 => ?_) (fun c_66 => ?_)
        · skip
          rw [← Int32.toInt_inj, ti_0] at c_66
          refine lv_iconst (v := (-1)) hx hb dX11_quarrel_69 (by decide) ?_
          exact W.iret (v := (-1)) hx hb hr (fun t ht hW => ⟨⟨(-1), f, rfl, ⟨rfl, (by decide)⟩, by rw [ht]; exact hP, va_K.moved hW.alike hK, pl_in hD⟩, hS.F ht⟩) hS.2.2 dX11_quarrel_70
        · skip
          rw [← Int32.toInt_inj, ti_0] at c_66
          refine lv_aload_n hx hb dX11_quarrel_53 rfl (lv_at hl 1 rfl) ?_
          refine lv_aload hx hb dX11_quarrel_54 (lv_at hl 0 rfl) ?_
          refine lv_aload_n hx hb dX11_quarrel_56 rfl (lv_at hl 2 rfl) ?_
          refine tk_getP (D := (dC, dI)) (ci := 11) (v := .ref a_5) (C := RX11) (T := TX11) (N := 19) hx hb hU inlX11 hown hK hP mo0 hfo_1 rfl 3 (by decide) (hU _ wd_19) (fun _ h9 => h9) rfl dX11_quarrel_57 ?_
          refine tk_getP (D := (dC, dI)) (ci := 7) (v := .int v_37) (C := RX7) (T := TX7) (N := 16) hx hb hU inlX7 hown hK hP ma_5 hfo_30 rfl 6 (by decide) (hU _ wd_1259) (fun _ h9 => h9) rfl dX11_quarrel_60 ?_
          refine tk_ViP (As := [.ref a_50, .int v_37]) (rest := []) (n := 2) hx hb hml hown hU hN hZ (s_X4_shortestClash_k4_k4 l (dC, dI) cI cL cZ cR cG cH Z kd L f hG a_49 ma_49 ka_49 a_50 ma_50 ka_50 v_37 (by constructor <;> omega)) wd_1264 wd_1265 wd_1266 wd_90 wd_1267 (by decide +kernel) ⟨Nat.le_of_ble_eq_true rfl, Nat.le_of_ble_eq_true rfl⟩ hK hP hD hS ma_49 hfo_51 4 rfl rfl rfl hl.1 rfl (Nat.le_of_ble_eq_true rfl) dX11_quarrel_63 ⟨Nat.le_of_ble_eq_true rfl, Nat.le_of_ble_eq_true rfl⟩ (fun x_67 f_68 H locs hw hP hD hS => ?_)
          obtain ⟨rfl, bx_67⟩ := hw
          refine lv_goto (tgt := 70) hx hb dX11_quarrel_66 (by decide) ?_
          exact W.iret (v := x_67) hx hb hr (fun t ht hW => ⟨⟨x_67, f, rfl, ⟨rfl, (by constructor <;> omega)⟩, by rw [ht]; exact hP, va_K.moved hW.alike hK, pl_in hD⟩, hS.F ht⟩) hS.2.2 dX11_quarrel_70
      · skip
        rw [← Int32.toInt_inj] at c_29
        refine lv_iconst (v := (-1)) hx hb dX11_quarrel_21 (by decide) ?_
        exact W.iret (v := (-1)) hx hb hr (fun t ht hW => ⟨⟨(-1), f, rfl, ⟨rfl, (by decide)⟩, by rw [ht]; exact hP, va_K.moved hW.alike hK, pl_in hD⟩, hS.F ht⟩) hS.2.2 dX11_quarrel_22
set_option maxHeartbeats 8000000 in
set_option maxRecDepth 100000 in
theorem s_X11_found_k11 (l : Launch) (D : va_G) (cI cL cZ cR cG cH : ClassId) (Z : zT) (kd : Nat → Nat) (L : List Nat) (f : Nat → va_E) (hG : GI (okc cI cL cZ cR cG cH L kd) kd L f) (o0 : Nat) (mo0 : o0 ∈ L) (ko0 : kd o0 = 11) (p1 : Int32) (p2 : Int32) : mPI l D cI cL cZ cR cG cH Z yX11_found cX11_found 3 (some .int) 3 65 [.ref o0, .int p1, .int p2] L f (fun (r : Int32) (f9 : Nat → va_E) => f = f9 ∧ ((-2147483648) ≤ r.toInt ∧ r.toInt ≤ 2147483647)) := by
  obtain ⟨dC, dI⟩ := D
  refine Met.ofW (cc := cX11_found) (maxL := 3) (ret := (some .int)) (by decide) rfl ?_
  intro p e s m args below meth c s₁ B hml hv
  obtain ⟨rfl, hP, hK, hD0, hN, hZ⟩ := hv
  have hx := B.exec
  have hb := B.bytes
  have hr := B.returns
  have hU : ∀ w ∈ wsU, w.before _ s = true := fun w h => atoms_spec (ws := wU yX11_found cX11_found 3 (some .int)) B.pre w (List.mem_cons_of_mem _ h)
  have hown : s.vm.findClass RX11 = some m.cls := findClass_of_methodNamed B.named
  have hlocks := B.notSynchronized
  have hD := pl_in hD0
  have hS : va_S (fun q => q ∈ L) s.heap s.heap [] := va_S.rf
  have hl := lv_entry ([.ref o0, .int p1, .int p2]) (n := 3) (Nat.le_of_ble_eq_true rfl)
  rw [lg_entry_eq]
  generalize (lg_sl ([.ref o0, .int p1, .int p2]) ++ List.replicate (3 - (lg_sl ([.ref o0, .int p1, .int p2])).length) Slot.unset).toArray = ls at hl ⊢
  have hl : lv_has ls 3 [(0, .ref o0), (1, .int p1), (2, .int p2)] := hl
  have bp1 : ((-2147483648) ≤ p1.toInt ∧ p1.toInt ≤ 2147483647) := ⟨i32_lo _, i32_hi _⟩
  have bp2 : ((-2147483648) ≤ p2.toInt ∧ p2.toInt ≤ 2147483647) := ⟨i32_lo _, i32_hi _⟩
  refine lv_iload_n hx hb dX11_found_0 rfl (lv_at hl 1 rfl) ?_
  refine lv_if_lt (tgt := 15) hx hb dX11_found_1 (by decide) (fun c_1 => ?_) (fun c_1 => ?_)
  · skip
    rw [Int32.lt_iff_toInt_lt, ti_0] at c_1
    refine lv_iconst (v := (-1)) hx hb dX11_found_15 (by decide) ?_
    exact W.iret (v := (-1)) hx hb hr (fun t ht hW => ⟨⟨(-1), f, rfl, ⟨rfl, (by decide)⟩, by rw [ht]; exact hP, va_K.moved hW.alike hK, pl_in hD⟩, hS.F ht⟩) hS.2.2 dX11_found_16
  · skip
    rw [Int32.lt_iff_toInt_lt, ti_0] at c_1
    refine lv_iload_n hx hb dX11_found_4 rfl (lv_at hl 1 rfl) ?_
    refine lv_aload_n hx hb dX11_found_5 rfl (lv_at hl 0 rfl) ?_
    obtain ⟨a_3, v_4, a_5, a_6, a_7, a_8, a_9, a_10, v_11, a_12, a_13, a_14, v_15, v_16, a_17, v_18, a_19, a_20, v_21, hfo_2, ⟨ma_3, ka_3⟩, bv_4, ⟨ma_5, ka_5⟩, ⟨ma_6, ka_6⟩, ⟨ma_7, ka_7⟩, ⟨ma_8, ka_8⟩, ⟨ma_9, ka_9⟩, ⟨ma_10, ka_10⟩, bv_11, ⟨ma_12, ka_12⟩, ⟨ma_13, ka_13⟩, ⟨ma_14, ka_14⟩, bv_15, ⟨ma_17, ka_17⟩, bv_18, ⟨ma_19, ka_19⟩, ⟨ma_20, ka_20⟩⟩ := un_11 (hG _ mo0) ko0
    have bv_16 : ((-2147483648) ≤ v_16.toInt ∧ v_16.toInt ≤ 2147483647) := ⟨i32_lo _, i32_hi _⟩
    have bv_21 : ((-2147483648) ≤ v_21.toInt ∧ v_21.toInt ≤ 2147483647) := ⟨i32_lo _, i32_hi _⟩
    refine tk_getP (D := (dC, dI)) (ci := 11) (v := .ref a_7) (C := RX11) (T := TX11) (N := 19) hx hb hU inlX11 hown hK hP mo0 hfo_2 rfl 4 (by decide) (hU _ wd_21) (fun _ h9 => h9) rfl dX11_found_6 ?_
    obtain ⟨a_23, v_24, v_25, hfo_22, ⟨ma_23, ka_23⟩, bv_24, bv_25⟩ := un_10 (hG _ ma_7) ka_7
    refine tk_getP (D := (dC, dI)) (ci := 10) (v := .int v_24) (C := RX10) (T := TX10) (N := 3) hx hb hU inlX10 hown hK hP ma_7 hfo_22 rfl 1 (by decide) (hU _ wd_708) (fun _ h9 => h9) rfl dX11_found_9 ?_
    refine lv_icmp_lt (tgt := 17) hx hb dX11_found_12 (by decide) (fun c_26 => ?_) (fun c_26 => ?_)
    · skip
      rw [Int32.lt_iff_toInt_lt] at c_26
      refine lv_iload_n hx hb dX11_found_17 rfl (lv_at hl 2 rfl) ?_
      refine lv_iconst (v := (-1)) hx hb dX11_found_18 (by decide) ?_
      refine lv_icmp_ne (tgt := 33) hx hb dX11_found_19 (by decide) (fun c_27 => ?_) (fun c_27 => ?_)
      · skip
        rw [← Int32.toInt_inj, ti_m1] at c_27
        refine lv_aload_n hx hb dX11_found_33 rfl (lv_at hl 0 rfl) ?_
        refine tk_getP (D := (dC, dI)) (ci := 11) (v := .ref a_7) (C := RX11) (T := TX11) (N := 19) hx hb hU inlX11 hown hK hP mo0 hfo_2 rfl 4 (by decide) (hU _ wd_21) (fun _ h9 => h9) rfl dX11_found_34 ?_
        refine lv_iload_n hx hb dX11_found_37 rfl (lv_at hl 1 rfl) ?_
        refine lv_iload_n hx hb dX11_found_38 rfl (lv_at hl 2 rfl) ?_
        refine tk_ViP (As := [.int p1, .int p2]) (rest := []) (n := 2) hx hb hml hown hU hN hZ (s_X10_letterOf_k10 l (dC, dI) cI cL cZ cR cG cH Z kd L f hG a_7 ma_7 ka_7 p1 p2) wd_990 wd_984 wd_985 wd_51 wd_986 (by decide +kernel) ⟨Nat.le_of_ble_eq_true rfl, Nat.le_of_ble_eq_true rfl⟩ hK hP hD hS ma_7 hfo_22 10 rfl rfl rfl hl.1 rfl (Nat.le_of_ble_eq_true rfl) dX11_found_39 ⟨Nat.le_of_ble_eq_true rfl, Nat.le_of_ble_eq_true rfl⟩ (fun x_28 f_29 H locs hw hP hD hS => ?_)
        obtain ⟨rfl, bx_28⟩ := hw
        exact W.iret (v := x_28) hx hb hr (fun t ht hW => ⟨⟨x_28, f, rfl, ⟨rfl, (by constructor <;> omega)⟩, by rw [ht]; exact hP, va_K.moved hW.alike hK, pl_in hD⟩, hS.F ht⟩) hS.2.2 dX11_found_42
      · skip
        rw [← Int32.toInt_inj, ti_m1] at c_27
        refine lv_aload_n hx hb dX11_found_22 rfl (lv_at hl 0 rfl) ?_
        refine tk_getP (D := (dC, dI)) (ci := 11) (v := .ref a_7) (C := RX11) (T := TX11) (N := 19) hx hb hU inlX11 hown hK hP mo0 hfo_2 rfl 4 (by decide) (hU _ wd_21) (fun _ h9 => h9) rfl dX11_found_23 ?_
        refine lv_iload_n hx hb dX11_found_26 rfl (lv_at hl 1 rfl) ?_
        refine tk_ViP (As := [.int p1]) (rest := []) (n := 1) hx hb hml hown hU hN hZ (s_X10_lengthOf_k10 l (dC, dI) cI cL cZ cR cG cH Z kd L f hG a_7 ma_7 ka_7 p1) wd_978 wd_979 wd_980 wd_51 wd_981 (by decide +kernel) ⟨Nat.le_of_ble_eq_true rfl, Nat.le_of_ble_eq_true rfl⟩ hK hP hD hS ma_7 hfo_22 10 rfl rfl rfl hl.1 rfl (Nat.le_of_ble_eq_true rfl) dX11_found_27 ⟨Nat.le_of_ble_eq_true rfl, Nat.le_of_ble_eq_true rfl⟩ (fun x_31 f_32 H locs hw hP hD hS => ?_)
        obtain ⟨rfl, bx_31⟩ := hw
        refine lv_goto (tgt := 42) hx hb dX11_found_30 (by decide) ?_
        exact W.iret (v := x_31) hx hb hr (fun t ht hW => ⟨⟨x_31, f, rfl, ⟨rfl, (by constructor <;> omega)⟩, by rw [ht]; exact hP, va_K.moved hW.alike hK, pl_in hD⟩, hS.F ht⟩) hS.2.2 dX11_found_42
    · skip
      rw [Int32.lt_iff_toInt_lt] at c_26
      refine lv_iconst (v := (-1)) hx hb dX11_found_15 (by decide) ?_
      exact W.iret (v := (-1)) hx hb hr (fun t ht hW => ⟨⟨(-1), f, rfl, ⟨rfl, (by decide)⟩, by rw [ht]; exact hP, va_K.moved hW.alike hK, pl_in hD⟩, hS.F ht⟩) hS.2.2 dX11_found_16
set_option maxHeartbeats 8000000 in
set_option maxRecDepth 100000 in
theorem s_X11_lookFurther_k11 (l : Launch) (D : va_G) (cI cL cZ cR cG cH : ClassId) (Z : zT) (kd : Nat → Nat) (L : List Nat) (f : Nat → va_E) (hG : GI (okc cI cL cZ cR cG cH L kd) kd L f) (o0 : Nat) (mo0 : o0 ∈ L) (ko0 : kd o0 = 11) (p1 : Int32) : mPI l D cI cL cZ cR cG cH Z yX11_lookFurther cX11_lookFurther 2 (some .int) 1 21 [.ref o0, .int p1] L f (fun (r : Int32) (f9 : Nat → va_E) => f = f9 ∧ ((-2147483648) ≤ r.toInt ∧ r.toInt ≤ 2147483647)) := by
  obtain ⟨dC, dI⟩ := D
  refine Met.ofW (cc := cX11_lookFurther) (maxL := 2) (ret := (some .int)) (by decide) rfl ?_
  intro p e s m args below meth c s₁ B hml hv
  obtain ⟨rfl, hP, hK, hD0, hN, hZ⟩ := hv
  have hx := B.exec
  have hb := B.bytes
  have hr := B.returns
  have hU : ∀ w ∈ wsU, w.before _ s = true := fun w h => atoms_spec (ws := wU yX11_lookFurther cX11_lookFurther 2 (some .int)) B.pre w (List.mem_cons_of_mem _ h)
  have hown : s.vm.findClass RX11 = some m.cls := findClass_of_methodNamed B.named
  have hlocks := B.notSynchronized
  have hD := pl_in hD0
  have hS : va_S (fun q => q ∈ L) s.heap s.heap [] := va_S.rf
  have hl := lv_entry ([.ref o0, .int p1]) (n := 2) (Nat.le_of_ble_eq_true rfl)
  rw [lg_entry_eq]
  generalize (lg_sl ([.ref o0, .int p1]) ++ List.replicate (2 - (lg_sl ([.ref o0, .int p1])).length) Slot.unset).toArray = ls at hl ⊢
  have hl : lv_has ls 2 [(0, .ref o0), (1, .int p1)] := hl
  have bp1 : ((-2147483648) ≤ p1.toInt ∧ p1.toInt ≤ 2147483647) := ⟨i32_lo _, i32_hi _⟩
  refine lv_iload_n hx hb dX11_lookFurther_0 rfl (lv_at hl 1 rfl) ?_
  refine lv_bipush (v := 10) hx hb dX11_lookFurther_1 (by decide) ?_
  refine lv_icmp_lt (tgt := 28) hx hb dX11_lookFurther_3 (by decide) (fun c_1 => ?_) (fun c_1 => ?_)
  · skip
    rw [Int32.lt_iff_toInt_lt, ti_10] at c_1
    refine lv_iload_n hx hb dX11_lookFurther_28 rfl (lv_at hl 1 rfl) ?_
    refine lv_bipush (v := 20) hx hb dX11_lookFurther_29 (by decide) ?_
    refine lv_icmp_lt (tgt := 55) hx hb dX11_lookFurther_31 (by decide) (fun c_2 => ?_) (fun c_2 => ?_)
    · skip
      rw [Int32.lt_iff_toInt_lt, ti_20] at c_2
      refine lv_iload_n hx hb dX11_lookFurther_55 rfl (lv_at hl 1 rfl) ?_
      refine lv_bipush (v := 40) hx hb dX11_lookFurther_56 (by decide) ?_
      refine lv_icmp_lt (tgt := 82) hx hb dX11_lookFurther_58 (by decide) (fun c_3 => ?_) (fun c_3 => ?_)
      · skip
        rw [Int32.lt_iff_toInt_lt, ti_40] at c_3
        refine lv_iload_n hx hb dX11_lookFurther_82 rfl (lv_at hl 1 rfl) ?_
        refine lv_bipush (v := 50) hx hb dX11_lookFurther_83 (by decide) ?_
        refine lv_icmp_lt (tgt := 115) hx hb dX11_lookFurther_85 (by decide) (fun c_4 => ?_) (fun c_4 => ?_)
        · skip
          rw [Int32.lt_iff_toInt_lt, ti_50] at c_4
          refine lv_iconst (v := (-1)) hx hb dX11_lookFurther_115 (by decide) ?_
          exact W.iret (v := (-1)) hx hb hr (fun t ht hW => ⟨⟨(-1), f, rfl, ⟨rfl, (by decide)⟩, by rw [ht]; exact hP, va_K.moved hW.alike hK, pl_in hD⟩, hS.F ht⟩) hS.2.2 dX11_lookFurther_116
        · skip
          rw [Int32.lt_iff_toInt_lt, ti_50] at c_4
          exfalso
          omega
      · skip
        rw [Int32.lt_iff_toInt_lt, ti_40] at c_3
        exfalso
        omega
    · skip
      rw [Int32.lt_iff_toInt_lt, ti_20] at c_2
      exfalso
      omega
  · skip
    rw [Int32.lt_iff_toInt_lt, ti_10] at c_1
    refine lv_iload_n hx hb dX11_lookFurther_6 rfl (lv_at hl 1 rfl) ?_
    refine lv_bipush (v := 16) hx hb dX11_lookFurther_7 (by decide) ?_
    refine lv_icmp_ge (tgt := 28) hx hb dX11_lookFurther_9 (by decide) (fun c_5 => ?_) (fun c_5 => ?_)
    · skip
      rw [Int32.le_iff_toInt_le, ti_16] at c_5
      refine lv_iload_n hx hb dX11_lookFurther_28 rfl (lv_at hl 1 rfl) ?_
      refine lv_bipush (v := 20) hx hb dX11_lookFurther_29 (by decide) ?_
      refine lv_icmp_lt (tgt := 55) hx hb dX11_lookFurther_31 (by decide) (fun c_6 => ?_) (fun c_6 => ?_)
      · skip
        rw [Int32.lt_iff_toInt_lt, ti_20] at c_6
        refine lv_iload_n hx hb dX11_lookFurther_55 rfl (lv_at hl 1 rfl) ?_
        refine lv_bipush (v := 40) hx hb dX11_lookFurther_56 (by decide) ?_
        refine lv_icmp_lt (tgt := 82) hx hb dX11_lookFurther_58 (by decide) (fun c_7 => ?_) (fun c_7 => ?_)
        · skip
          rw [Int32.lt_iff_toInt_lt, ti_40] at c_7
          refine lv_iload_n hx hb dX11_lookFurther_82 rfl (lv_at hl 1 rfl) ?_
          refine lv_bipush (v := 50) hx hb dX11_lookFurther_83 (by decide) ?_
          refine lv_icmp_lt (tgt := 115) hx hb dX11_lookFurther_85 (by decide) (fun c_8 => ?_) (fun c_8 => ?_)
          · skip
            rw [Int32.lt_iff_toInt_lt, ti_50] at c_8
            refine lv_iconst (v := (-1)) hx hb dX11_lookFurther_115 (by decide) ?_
            exact W.iret (v := (-1)) hx hb hr (fun t ht hW => ⟨⟨(-1), f, rfl, ⟨rfl, (by decide)⟩, by rw [ht]; exact hP, va_K.moved hW.alike hK, pl_in hD⟩, hS.F ht⟩) hS.2.2 dX11_lookFurther_116
          · skip
            rw [Int32.lt_iff_toInt_lt, ti_50] at c_8
            exfalso
            omega
        · skip
          rw [Int32.lt_iff_toInt_lt, ti_40] at c_7
          exfalso
          omega
      · skip
        rw [Int32.lt_iff_toInt_lt, ti_20] at c_6
        refine lv_iload_n hx hb dX11_lookFurther_34 rfl (lv_at hl 1 rfl) ?_
        refine lv_bipush (v := 40) hx hb dX11_lookFurther_35 (by decide) ?_
        refine lv_icmp_ge (tgt := 55) hx hb dX11_lookFurther_37 (by decide) (fun c_9 => ?_) (fun c_9 => ?_)
        · skip
          rw [Int32.le_iff_toInt_le, ti_40] at c_9
          refine lv_iload_n hx hb dX11_lookFurther_55 rfl (lv_at hl 1 rfl) ?_
          refine lv_bipush (v := 40) hx hb dX11_lookFurther_56 (by decide) ?_
          refine lv_icmp_lt (tgt := 82) hx hb dX11_lookFurther_58 (by decide) (fun c_10 => ?_) (fun c_10 => ?_)
          · skip
            rw [Int32.lt_iff_toInt_lt, ti_40] at c_10
            exfalso
            omega
          · skip
            rw [Int32.lt_iff_toInt_lt, ti_40] at c_10
            refine lv_iload_n hx hb dX11_lookFurther_61 rfl (lv_at hl 1 rfl) ?_
            refine lv_bipush (v := 50) hx hb dX11_lookFurther_62 (by decide) ?_
            refine lv_icmp_ge (tgt := 82) hx hb dX11_lookFurther_64 (by decide) (fun c_11 => ?_) (fun c_11 => ?_)
            · skip
              rw [Int32.le_iff_toInt_le, ti_50] at c_11
              refine lv_iload_n hx hb dX11_lookFurther_82 rfl (lv_at hl 1 rfl) ?_
              refine lv_bipush (v := 50) hx hb dX11_lookFurther_83 (by decide) ?_
              refine lv_icmp_lt (tgt := 115) hx hb dX11_lookFurther_85 (by decide) (fun c_12 => ?_) (fun c_12 => ?_)
              · skip
                rw [Int32.lt_iff_toInt_lt, ti_50] at c_12
                exfalso
                omega
              · skip
                rw [Int32.lt_iff_toInt_lt, ti_50] at c_12
                refine lv_iload_n hx hb dX11_lookFurther_88 rfl (lv_at hl 1 rfl) ?_
                refine lv_bipush (v := 50) hx hb dX11_lookFurther_89 (by decide) ?_
                refine lv_aload_n hx hb dX11_lookFurther_91 rfl (lv_at hl 0 rfl) ?_
                obtain ⟨a_14, v_15, a_16, a_17, a_18, a_19, a_20, a_21, v_22, a_23, a_24, a_25, v_26, v_27, a_28, v_29, a_30, a_31, v_32, hfo_13, ⟨ma_14, ka_14⟩, bv_15, ⟨ma_16, ka_16⟩, ⟨ma_17, ka_17⟩, ⟨ma_18, ka_18⟩, ⟨ma_19, ka_19⟩, ⟨ma_20, ka_20⟩, ⟨ma_21, ka_21⟩, bv_22, ⟨ma_23, ka_23⟩, ⟨ma_24, ka_24⟩, ⟨ma_25, ka_25⟩, bv_26, ⟨ma_28, ka_28⟩, bv_29, ⟨ma_30, ka_30⟩, ⟨ma_31, ka_31⟩⟩ := un_11 (hG _ mo0) ko0
                have bv_27 : ((-2147483648) ≤ v_27.toInt ∧ v_27.toInt ≤ 2147483647) := ⟨i32_lo _, i32_hi _⟩
                have bv_32 : ((-2147483648) ≤ v_32.toInt ∧ v_32.toInt ≤ 2147483647) := ⟨i32_lo _, i32_hi _⟩
                refine tk_getP (D := (dC, dI)) (ci := 11) (v := .ref a_17) (C := RX11) (T := TX11) (N := 19) hx hb hU inlX11 hown hK hP mo0 hfo_13 rfl 3 (by decide) (hU _ wd_19) (fun _ h9 => h9) rfl dX11_lookFurther_92 ?_
                obtain ⟨a_34, v_35, a_36, a_37, a_38, a_39, v_40, a_41, a_42, a_43, a_44, a_45, v_46, a_47, a_48, a_49, hfo_33, ⟨ma_34, ka_34⟩, bv_35, ⟨ma_36, ka_36⟩, ⟨ma_37, ka_37⟩, ⟨ma_38, ka_38⟩, ⟨ma_39, ka_39⟩, bv_40, ⟨ma_41, ka_41⟩, ⟨ma_42, ka_42⟩, ⟨ma_43, ka_43⟩, ⟨ma_44, ka_44⟩, ⟨ma_45, ka_45⟩, bv_46, ⟨ma_47, ka_47⟩, ⟨ma_48, ka_48⟩, ⟨ma_49, ka_49⟩⟩ := un_7 (hG _ ma_17) ka_17
                refine tk_getP (D := (dC, dI)) (ci := 7) (v := .int v_46) (C := RX7) (T := TX7) (N := 16) hx hb hU inlX7 hown hK hP ma_17 hfo_33 rfl 12 (by decide) (hU _ wd_235) (fun _ h9 => h9) rfl dX11_lookFurther_95 ?_
                refine lv_iadd hx hb dX11_lookFurther_98 ?_
                refine lv_topi (fun x_50 ex_50 => ?_)
                have hx_50 : x_50.toInt = 50 + v_46.toInt := by rw [ex_50, ad_I (by rw [ti_50]; omega) (by rw [ti_50]; omega), ti_50]
                have bx_50 : (50 ≤ x_50.toInt ∧ x_50.toInt ≤ 58) := by constructor <;> omega
                refine lv_icmp_ge (tgt := 115) hx hb dX11_lookFurther_99 (by decide) (fun c_51 => ?_) (fun c_51 => ?_)
                · skip
                  rw [Int32.le_iff_toInt_le] at c_51
                  refine lv_iconst (v := (-1)) hx hb dX11_lookFurther_115 (by decide) ?_
                  exact W.iret (v := (-1)) hx hb hr (fun t ht hW => ⟨⟨(-1), f, rfl, ⟨rfl, (by decide)⟩, by rw [ht]; exact hP, va_K.moved hW.alike hK, pl_in hD⟩, hS.F ht⟩) hS.2.2 dX11_lookFurther_116
                · skip
                  rw [Int32.le_iff_toInt_le] at c_51
                  refine lv_aload_n hx hb dX11_lookFurther_102 rfl (lv_at hl 0 rfl) ?_
                  refine tk_getP (D := (dC, dI)) (ci := 11) (v := .ref a_19) (C := RX11) (T := TX11) (N := 19) hx hb hU inlX11 hown hK hP mo0 hfo_13 rfl 5 (by decide) (hU _ wd_25) (fun _ h9 => h9) rfl dX11_lookFurther_103 ?_
                  obtain ⟨v_53, v_54, a_55, a_56, a_57, v_58, a_59, a_60, a_61, hfo_52, bv_54, ⟨ma_55, ka_55⟩, ⟨ma_56, ka_56⟩, ⟨ma_57, ka_57⟩, ⟨ma_59, ka_59⟩, ⟨ma_60, ka_60⟩, ⟨ma_61, ka_61⟩⟩ := un_6 (hG _ ma_19) ka_19
                  have bv_53 : ((-2147483648) ≤ v_53.toInt ∧ v_53.toInt ≤ 2147483647) := ⟨i32_lo _, i32_hi _⟩
                  have bv_58 : ((-2147483648) ≤ v_58.toInt ∧ v_58.toInt ≤ 2147483647) := ⟨i32_lo _, i32_hi _⟩
                  refine tk_getP (D := (dC, dI)) (ci := 6) (v := .ref a_55) (C := RX6) (T := TX6) (N := 9) hx hb hU inlX6 hown hK hP ma_19 hfo_52 rfl 2 (by decide) (hU _ wd_1102) (fun _ h9 => h9) rfl dX11_lookFurther_106 ?_
                  refine lv_iload_n hx hb dX11_lookFurther_109 rfl (lv_at hl 1 rfl) ?_
                  refine lv_bipush (v := 50) hx hb dX11_lookFurther_110 (by decide) ?_
                  refine lv_isub hx hb dX11_lookFurther_112 ?_
                  refine lv_topi (fun x_62 ex_62 => ?_)
                  have hx_62 : x_62.toInt = p1.toInt - 50 := by rw [ex_62, sb_I (by rw [ti_50]; omega) (by rw [ti_50]; omega), ti_50]
                  have bx_62 : (0 ≤ x_62.toInt ∧ x_62.toInt ≤ 7) := by constructor <;> omega
                  obtain ⟨g_64, hfo_63, hbg_64⟩ := un_530 (hG _ ma_55) ka_55
                  refine tk_ildP hx hb hK hP 0 ma_55 hfo_63 rfl (vp_in_iff.mpr (by constructor <;> omega)) dX11_lookFurther_113 ?_
                  refine lv_topi (fun x_65 ex_65 => ?_)
                  have bx_65 : (0 ≤ x_65.toInt ∧ x_65.toInt ≤ 7) := by rw [ex_65]; exact hbg_64 _
                  exact W.iret (v := x_65) hx hb hr (fun t ht hW => ⟨⟨x_65, f, rfl, ⟨rfl, (by constructor <;> omega)⟩, by rw [ht]; exact hP, va_K.moved hW.alike hK, pl_in hD⟩, hS.F ht⟩) hS.2.2 dX11_lookFurther_114
            · skip
              rw [Int32.le_iff_toInt_le, ti_50] at c_11
              refine lv_aload_n hx hb dX11_lookFurther_67 rfl (lv_at hl 0 rfl) ?_
              obtain ⟨a_67, v_68, a_69, a_70, a_71, a_72, a_73, a_74, v_75, a_76, a_77, a_78, v_79, v_80, a_81, v_82, a_83, a_84, v_85, hfo_66, ⟨ma_67, ka_67⟩, bv_68, ⟨ma_69, ka_69⟩, ⟨ma_70, ka_70⟩, ⟨ma_71, ka_71⟩, ⟨ma_72, ka_72⟩, ⟨ma_73, ka_73⟩, ⟨ma_74, ka_74⟩, bv_75, ⟨ma_76, ka_76⟩, ⟨ma_77, ka_77⟩, ⟨ma_78, ka_78⟩, bv_79, ⟨ma_81, ka_81⟩, bv_82, ⟨ma_83, ka_83⟩, ⟨ma_84, ka_84⟩⟩ := un_11 (hG _ mo0) ko0
              have bv_80 : ((-2147483648) ≤ v_80.toInt ∧ v_80.toInt ≤ 2147483647) := ⟨i32_lo _, i32_hi _⟩
              have bv_85 : ((-2147483648) ≤ v_85.toInt ∧ v_85.toInt ≤ 2147483647) := ⟨i32_lo _, i32_hi _⟩
              refine tk_getP (D := (dC, dI)) (ci := 11) (v := .ref a_70) (C := RX11) (T := TX11) (N := 19) hx hb hU inlX11 hown hK hP mo0 hfo_66 rfl 3 (by decide) (hU _ wd_19) (fun _ h9 => h9) rfl dX11_lookFurther_68 ?_
              obtain ⟨a_87, v_88, a_89, a_90, a_91, a_92, v_93, a_94, a_95, a_96, a_97, a_98, v_99, a_100, a_101, a_102, hfo_86, ⟨ma_87, ka_87⟩, bv_88, ⟨ma_89, ka_89⟩, ⟨ma_90, ka_90⟩, ⟨ma_91, ka_91⟩, ⟨ma_92, ka_92⟩, bv_93, ⟨ma_94, ka_94⟩, ⟨ma_95, ka_95⟩, ⟨ma_96, ka_96⟩, ⟨ma_97, ka_97⟩, ⟨ma_98, ka_98⟩, bv_99, ⟨ma_100, ka_100⟩, ⟨ma_101, ka_101⟩, ⟨ma_102, ka_102⟩⟩ := un_7 (hG _ ma_70) ka_70
              refine tk_getP (D := (dC, dI)) (ci := 7) (v := .ref a_101) (C := RX7) (T := TX7) (N := 16) hx hb hU inlX7 hown hK hP ma_70 hfo_86 rfl 14 (by decide) (hU _ wd_1001) (fun _ h9 => h9) rfl dX11_lookFurther_71 ?_
              refine lv_iload_n hx hb dX11_lookFurther_74 rfl (lv_at hl 1 rfl) ?_
              refine lv_bipush (v := 40) hx hb dX11_lookFurther_75 (by decide) ?_
              refine lv_isub hx hb dX11_lookFurther_77 ?_
              refine lv_topi (fun x_103 ex_103 => ?_)
              have hx_103 : x_103.toInt = p1.toInt - 40 := by rw [ex_103, sb_I (by rw [ti_40]; omega) (by rw [ti_40]; omega), ti_40]
              have bx_103 : (0 ≤ x_103.toInt ∧ x_103.toInt ≤ 9) := by constructor <;> omega
              obtain ⟨a_105, a_106, v_107, hfo_104, ⟨ma_105, ka_105⟩, ⟨ma_106, ka_106⟩, bv_107⟩ := un_13 (hG _ ma_101) ka_101
              refine tk_ViP (As := [.int x_103]) (rest := []) (n := 1) hx hb hml hown hU hN hZ (s_X9_lengthOf_k13 l (dC, dI) cI cL cZ cR cG cH Z kd L f hG a_101 ma_101 ka_101 x_103) wd_1493 wd_1011 wd_1012 wd_85 wd_1013 (by decide +kernel) ⟨Nat.le_of_ble_eq_true rfl, Nat.le_of_ble_eq_true rfl⟩ hK hP hD hS ma_101 hfo_104 9 rfl rfl rfl hl.1 rfl (Nat.le_of_ble_eq_true rfl) dX11_lookFurther_78 ⟨Nat.le_of_ble_eq_true rfl, Nat.le_of_ble_eq_true rfl⟩ (fun x_108 f_109 H locs hw hP hD hS => ?_)
              obtain ⟨rfl, bx_108, relx_108⟩ := hw
              exact W.iret (v := x_108) hx hb hr (fun t ht hW => ⟨⟨x_108, f, rfl, ⟨rfl, (by constructor <;> omega)⟩, by rw [ht]; exact hP, va_K.moved hW.alike hK, pl_in hD⟩, hS.F ht⟩) hS.2.2 dX11_lookFurther_81
        · skip
          rw [Int32.le_iff_toInt_le, ti_40] at c_9
          refine lv_aload_n hx hb dX11_lookFurther_40 rfl (lv_at hl 0 rfl) ?_
          obtain ⟨a_112, v_113, a_114, a_115, a_116, a_117, a_118, a_119, v_120, a_121, a_122, a_123, v_124, v_125, a_126, v_127, a_128, a_129, v_130, hfo_111, ⟨ma_112, ka_112⟩, bv_113, ⟨ma_114, ka_114⟩, ⟨ma_115, ka_115⟩, ⟨ma_116, ka_116⟩, ⟨ma_117, ka_117⟩, ⟨ma_118, ka_118⟩, ⟨ma_119, ka_119⟩, bv_120, ⟨ma_121, ka_121⟩, ⟨ma_122, ka_122⟩, ⟨ma_123, ka_123⟩, bv_124, ⟨ma_126, ka_126⟩, bv_127, ⟨ma_128, ka_128⟩, ⟨ma_129, ka_129⟩⟩ := un_11 (hG _ mo0) ko0
          have bv_125 : ((-2147483648) ≤ v_125.toInt ∧ v_125.toInt ≤ 2147483647) := ⟨i32_lo _, i32_hi _⟩
          have bv_130 : ((-2147483648) ≤ v_130.toInt ∧ v_130.toInt ≤ 2147483647) := ⟨i32_lo _, i32_hi _⟩
          refine tk_getP (D := (dC, dI)) (ci := 11) (v := .ref a_115) (C := RX11) (T := TX11) (N := 19) hx hb hU inlX11 hown hK hP mo0 hfo_111 rfl 3 (by decide) (hU _ wd_19) (fun _ h9 => h9) rfl dX11_lookFurther_41 ?_
          obtain ⟨a_132, v_133, a_134, a_135, a_136, a_137, v_138, a_139, a_140, a_141, a_142, a_143, v_144, a_145, a_146, a_147, hfo_131, ⟨ma_132, ka_132⟩, bv_133, ⟨ma_134, ka_134⟩, ⟨ma_135, ka_135⟩, ⟨ma_136, ka_136⟩, ⟨ma_137, ka_137⟩, bv_138, ⟨ma_139, ka_139⟩, ⟨ma_140, ka_140⟩, ⟨ma_141, ka_141⟩, ⟨ma_142, ka_142⟩, ⟨ma_143, ka_143⟩, bv_144, ⟨ma_145, ka_145⟩, ⟨ma_146, ka_146⟩, ⟨ma_147, ka_147⟩⟩ := un_7 (hG _ ma_115) ka_115
          refine tk_getP (D := (dC, dI)) (ci := 7) (v := .ref a_145) (C := RX7) (T := TX7) (N := 16) hx hb hU inlX7 hown hK hP ma_115 hfo_131 rfl 13 (by decide) (hU _ wd_999) (fun _ h9 => h9) rfl dX11_lookFurther_44 ?_
          refine lv_iload_n hx hb dX11_lookFurther_47 rfl (lv_at hl 1 rfl) ?_
          refine lv_bipush (v := 20) hx hb dX11_lookFurther_48 (by decide) ?_
          refine lv_isub hx hb dX11_lookFurther_50 ?_
          refine lv_topi (fun x_148 ex_148 => ?_)
          have hx_148 : x_148.toInt = p1.toInt - 20 := by rw [ex_148, sb_I (by rw [ti_20]; omega) (by rw [ti_20]; omega), ti_20]
          have bx_148 : (0 ≤ x_148.toInt ∧ x_148.toInt ≤ 19) := by constructor <;> omega
          obtain ⟨a_150, a_151, v_152, hfo_149, ⟨ma_150, ka_150⟩, ⟨ma_151, ka_151⟩, bv_152⟩ := un_9 (hG _ ma_145) ka_145
          refine tk_ViP (As := [.int x_148]) (rest := []) (n := 1) hx hb hml hown hU hN hZ (s_X9_lengthOf_k9 l (dC, dI) cI cL cZ cR cG cH Z kd L f hG a_145 ma_145 ka_145 x_148) wd_1493 wd_1011 wd_1012 wd_85 wd_1013 (by decide +kernel) ⟨Nat.le_of_ble_eq_true rfl, Nat.le_of_ble_eq_true rfl⟩ hK hP hD hS ma_145 hfo_149 9 rfl rfl rfl hl.1 rfl (Nat.le_of_ble_eq_true rfl) dX11_lookFurther_51 ⟨Nat.le_of_ble_eq_true rfl, Nat.le_of_ble_eq_true rfl⟩ (fun x_153 f_154 H locs hw hP hD hS => ?_)
          obtain ⟨rfl, bx_153, relx_153⟩ := hw
          exact W.iret (v := x_153) hx hb hr (fun t ht hW => ⟨⟨x_153, f, rfl, ⟨rfl, (by constructor <;> omega)⟩, by rw [ht]; exact hP, va_K.moved hW.alike hK, pl_in hD⟩, hS.F ht⟩) hS.2.2 dX11_lookFurther_54
    · skip
      rw [Int32.le_iff_toInt_le, ti_16] at c_5
      refine lv_aload_n hx hb dX11_lookFurther_12 rfl (lv_at hl 0 rfl) ?_
      obtain ⟨a_157, v_158, a_159, a_160, a_161, a_162, a_163, a_164, v_165, a_166, a_167, a_168, v_169, v_170, a_171, v_172, a_173, a_174, v_175, hfo_156, ⟨ma_157, ka_157⟩, bv_158, ⟨ma_159, ka_159⟩, ⟨ma_160, ka_160⟩, ⟨ma_161, ka_161⟩, ⟨ma_162, ka_162⟩, ⟨ma_163, ka_163⟩, ⟨ma_164, ka_164⟩, bv_165, ⟨ma_166, ka_166⟩, ⟨ma_167, ka_167⟩, ⟨ma_168, ka_168⟩, bv_169, ⟨ma_171, ka_171⟩, bv_172, ⟨ma_173, ka_173⟩, ⟨ma_174, ka_174⟩⟩ := un_11 (hG _ mo0) ko0
      have bv_170 : ((-2147483648) ≤ v_170.toInt ∧ v_170.toInt ≤ 2147483647) := ⟨i32_lo _, i32_hi _⟩
      have bv_175 : ((-2147483648) ≤ v_175.toInt ∧ v_175.toInt ≤ 2147483647) := ⟨i32_lo _, i32_hi _⟩
      refine tk_getP (D := (dC, dI)) (ci := 11) (v := .ref a_160) (C := RX11) (T := TX11) (N := 19) hx hb hU inlX11 hown hK hP mo0 hfo_156 rfl 3 (by decide) (hU _ wd_19) (fun _ h9 => h9) rfl dX11_lookFurther_13 ?_
      obtain ⟨a_177, v_178, a_179, a_180, a_181, a_182, v_183, a_184, a_185, a_186, a_187, a_188, v_189, a_190, a_191, a_192, hfo_176, ⟨ma_177, ka_177⟩, bv_178, ⟨ma_179, ka_179⟩, ⟨ma_180, ka_180⟩, ⟨ma_181, ka_181⟩, ⟨ma_182, ka_182⟩, bv_183, ⟨ma_184, ka_184⟩, ⟨ma_185, ka_185⟩, ⟨ma_186, ka_186⟩, ⟨ma_187, ka_187⟩, ⟨ma_188, ka_188⟩, bv_189, ⟨ma_190, ka_190⟩, ⟨ma_191, ka_191⟩, ⟨ma_192, ka_192⟩⟩ := un_7 (hG _ ma_160) ka_160
      refine tk_getP (D := (dC, dI)) (ci := 7) (v := .ref a_179) (C := RX7) (T := TX7) (N := 16) hx hb hU inlX7 hown hK hP ma_160 hfo_176 rfl 2 (by decide) (hU _ wd_1492) (fun _ h9 => h9) rfl dX11_lookFurther_16 ?_
      refine lv_iload_n hx hb dX11_lookFurther_19 rfl (lv_at hl 1 rfl) ?_
      refine lv_bipush (v := 10) hx hb dX11_lookFurther_20 (by decide) ?_
      refine lv_isub hx hb dX11_lookFurther_22 ?_
      refine lv_topi (fun x_193 ex_193 => ?_)
      have hx_193 : x_193.toInt = p1.toInt - 10 := by rw [ex_193, sb_I (by rw [ti_10]; omega) (by rw [ti_10]; omega), ti_10]
      have bx_193 : (0 ≤ x_193.toInt ∧ x_193.toInt ≤ 5) := by constructor <;> omega
      obtain ⟨g_195, hfo_194, hbg_195⟩ := un_509 (hG _ ma_179) ka_179
      refine tk_ildP hx hb hK hP 0 ma_179 hfo_194 rfl (vp_in_iff.mpr (by constructor <;> omega)) dX11_lookFurther_23 ?_
      refine lv_topi (fun x_196 ex_196 => ?_)
      have bx_196 : ((-2147483648) ≤ x_196.toInt ∧ x_196.toInt ≤ 2147483647) := ⟨i32_lo _, i32_hi _⟩
      refine tk_SiP (As := [.int x_196]) (rest := []) (n := 1) hx hb hml hown hU hN hZ (s_J6_bitCount_0f7a4 l (dC, dI) cI cL cZ cR cG cH Z kd L f hG x_196) wd_1183 wd_1184 wd_1185 wd_1186 (by decide +kernel) ⟨Nat.le_of_ble_eq_true rfl, Nat.le_of_ble_eq_true rfl⟩ hK hP hD hS rfl hl.1 rfl (Nat.le_of_ble_eq_true rfl) dX11_lookFurther_24 ⟨Nat.le_of_ble_eq_true rfl, Nat.le_of_ble_eq_true rfl⟩ (fun x_197 f_198 H locs hw hP hD hS => ?_)
      obtain ⟨rfl, bx_197⟩ := hw
      exact W.iret (v := x_197) hx hb hr (fun t ht hW => ⟨⟨x_197, f, rfl, ⟨rfl, (by constructor <;> omega)⟩, by rw [ht]; exact hP, va_K.moved hW.alike hK, pl_in hD⟩, hS.F ht⟩) hS.2.2 dX11_lookFurther_27
