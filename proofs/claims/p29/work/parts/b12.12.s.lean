set_option maxHeartbeats 8000000 in
set_option maxRecDepth 100000 in
theorem s_X12_meant_k12 (l : Launch) (D : va_G) (cI cL cZ cR cG cH : ClassId) (Z : zT) (kd : Nat → Nat) (L : List Nat) (f : Nat → va_E) (hG : GI (okc cI cL cZ cR cG cH L kd) kd L f) (o0 : Nat) (mo0 : o0 ∈ L) (ko0 : kd o0 = 12) (p1 : Int32) (p2 : Int32) : mPI l D cI cL cZ cR cG cH Z yX12_meant cX12_meant 3 (some .int) 1 22 [.ref o0, .int p1, .int p2] L f (fun (r : Int32) (f9 : Nat → va_E) => f = f9 ∧ ((-2147483648) ≤ r.toInt ∧ r.toInt ≤ 2147483647)) := by
  obtain ⟨dC, dI⟩ := D
  refine Met.ofW (cc := cX12_meant) (maxL := 3) (ret := (some .int)) (by decide) rfl ?_
  intro p e s m args below meth c s₁ B hml hv
  obtain ⟨rfl, hP, hK, hD0, hN, hZ⟩ := hv
  have hx := B.exec
  have hb := B.bytes
  have hr := B.returns
  have hU : ∀ w ∈ wsU, w.before _ s = true := fun w h => atoms_spec (ws := wU yX12_meant cX12_meant 3 (some .int)) B.pre w (List.mem_cons_of_mem _ h)
  have hown : s.vm.findClass RX12 = some m.cls := findClass_of_methodNamed B.named
  have hlocks := B.notSynchronized
  have hD := pl_in hD0
  have hS : va_S (fun q => q ∈ L) s.heap s.heap [] := va_S.rf
  have hl := lv_entry ([.ref o0, .int p1, .int p2]) (n := 3) (Nat.le_of_ble_eq_true rfl)
  rw [lg_entry_eq]
  generalize (lg_sl ([.ref o0, .int p1, .int p2]) ++ List.replicate (3 - (lg_sl ([.ref o0, .int p1, .int p2])).length) Slot.unset).toArray = ls at hl ⊢
  have hl : lv_has ls 3 [(0, .ref o0), (1, .int p1), (2, .int p2)] := hl
  have bp1 : ((-2147483648) ≤ p1.toInt ∧ p1.toInt ≤ 2147483647) := ⟨i32_lo _, i32_hi _⟩
  have bp2 : ((-2147483648) ≤ p2.toInt ∧ p2.toInt ≤ 2147483647) := ⟨i32_lo _, i32_hi _⟩
  refine lv_iload_n hx hb dX12_meant_0 rfl (lv_at hl 1 rfl) ?_
  refine lv_iconst (v := 0) hx hb dX12_meant_1 (by decide) ?_
  refine lv_aload_n hx hb dX12_meant_2 rfl (lv_at hl 0 rfl) ?_
  obtain ⟨a_1, a_2, a_3, v_4, a_5, v_6, v_7, v_8, v_9, v_10, v_11, v_12, v_13, v_14, v_15, a_16, a_17, a_18, a_19, a_20, a_21, a_22, a_23, v_24, v_25, v_26, v_27, v_28, a_29, v_30, a_31, a_32, v_33, v_34, a_35, v_36, a_37, a_38, v_39, v_40, a_41, a_42, a_43, v_44, a_45, a_46, a_47, a_48, a_49, a_50, a_51, a_52, a_53, v_54, v_55, a_56, hfo_57, fa_58⟩ := un12 (hG _ mo0) ko0
  obtain ⟨ma_37, ka_37⟩ := fa12_36 fa_58
  obtain ⟨ma_38, ka_38⟩ := fa12_37 fa_58
  have bv_39 : (0 ≤ v_39.toInt ∧ v_39.toInt ≤ 96) := fa12_38 fa_58
  refine tk_getP (D := (dC, dI)) (ci := 12) (v := .int v_39) (C := RX12) (T := TX12) (N := 56) hx hb hU inlX12 hown hK hP mo0 hfo_57 rfl 38 (by decide) (hU _ wd_571) (fun _ h9 => h9) rfl dX12_meant_3 ?_
  refine lv_iconst (v := 1) hx hb dX12_meant_6 (by decide) ?_
  refine lv_isub hx hb dX12_meant_7 ?_
  refine lv_topi (fun x_59 ex_59 => ?_)
  have hx_59 : x_59.toInt = v_39.toInt - 1 := by rw [ex_59, sb_I (by rw [ti_1]; omega) (by rw [ti_1]; omega), ti_1]
  have bx_59 : ((-1) ≤ x_59.toInt ∧ x_59.toInt ≤ 95) := by constructor <;> omega
  refine tk_SiP (As := [.int p1, .int 0, .int x_59]) (rest := []) (n := 3) hx hb hml hown hU hN hZ (s_X12_isIn l (dC, dI) cI cL cZ cR cG cH Z kd L f hG p1 0 x_59) wd_227 wd_228 wd_5 wd_229 (by decide +kernel) ⟨Nat.le_of_ble_eq_true rfl, Nat.le_of_ble_eq_true rfl⟩ hK hP hD hS rfl hl.1 rfl (Nat.le_of_ble_eq_true rfl) dX12_meant_8 ⟨Nat.le_of_ble_eq_true rfl, Nat.le_of_ble_eq_true rfl⟩ (fun x_60 f_61 H locs hw hP hD hS => ?_)
  obtain ⟨rfl, bx_60, relx_60⟩ := hw
  try rw [ti_0] at relx_60
  refine lv_if_ne (tgt := 18) hx hb dX12_meant_11 (by decide) (fun c_63 => ?_) (fun c_63 => ?_)
  · skip
    rw [← Int32.toInt_inj, ti_0] at c_63
    refine lv_iload_n hx hb dX12_meant_18 rfl (lv_at hl 2 rfl) ?_
    refine lv_if_ne (tgt := 31) hx hb dX12_meant_19 (by decide) (fun c_64 => ?_) (fun c_64 => ?_)
    · skip
      rw [← Int32.toInt_inj, ti_0] at c_64
      refine lv_iload_n hx hb dX12_meant_31 rfl (lv_at hl 2 rfl) ?_
      refine lv_iconst (v := 1) hx hb dX12_meant_32 (by decide) ?_
      refine lv_icmp_ne (tgt := 45) hx hb dX12_meant_33 (by decide) (fun c_65 => ?_) (fun c_65 => ?_)
      · skip
        rw [← Int32.toInt_inj, ti_1] at c_65
        refine lv_iconst (v := (-1)) hx hb dX12_meant_45 (by decide) ?_
        exact W.iret (v := (-1)) hx hb hr (fun t ht hW => ⟨⟨(-1), f, rfl, ⟨rfl, (by decide)⟩, by rw [ht]; exact hP, va_K.moved hW.alike hK, pl_in hD⟩, hS.F ht⟩) hS.2.2 dX12_meant_46
      · skip
        rw [← Int32.toInt_inj, ti_1] at c_65
        refine lv_aload_n hx hb dX12_meant_36 rfl (lv_at hl 0 rfl) ?_
        refine tk_getP (D := (dC, dI)) (ci := 12) (v := .ref a_38) (C := RX12) (T := TX12) (N := 56) hx hb hU inlX12 hown hK hP mo0 hfo_57 rfl 37 (by decide) (hU _ wd_188) (fun _ h9 => h9) rfl dX12_meant_37 ?_
        refine lv_iload_n hx hb dX12_meant_40 rfl (lv_at hl 1 rfl) ?_
        obtain ⟨g_67, hfo_66, hbg_67⟩ := un_596 (hG _ ma_38) ka_38
        refine tk_ildP hx hb hK hP 0 ma_38 hfo_66 rfl (vp_in_iff.mpr (by constructor <;> omega)) dX12_meant_41 ?_
        refine lv_topi (fun x_68 ex_68 => ?_)
        have bx_68 : ((-2147483648) ≤ x_68.toInt ∧ x_68.toInt ≤ 2147483647) := ⟨i32_lo _, i32_hi _⟩
        refine lv_goto (tgt := 46) hx hb dX12_meant_42 (by decide) ?_
        exact W.iret (v := x_68) hx hb hr (fun t ht hW => ⟨⟨x_68, f, rfl, ⟨rfl, (by constructor <;> omega)⟩, by rw [ht]; exact hP, va_K.moved hW.alike hK, pl_in hD⟩, hS.F ht⟩) hS.2.2 dX12_meant_46
    · skip
      rw [← Int32.toInt_inj, ti_0] at c_64
      refine lv_aload_n hx hb dX12_meant_22 rfl (lv_at hl 0 rfl) ?_
      refine tk_getP (D := (dC, dI)) (ci := 12) (v := .ref a_37) (C := RX12) (T := TX12) (N := 56) hx hb hU inlX12 hown hK hP mo0 hfo_57 rfl 36 (by decide) (hU _ wd_187) (fun _ h9 => h9) rfl dX12_meant_23 ?_
      refine lv_iload_n hx hb dX12_meant_26 rfl (lv_at hl 1 rfl) ?_
      obtain ⟨g_70, hfo_69, hbg_70⟩ := un_595 (hG _ ma_37) ka_37
      refine tk_ildP hx hb hK hP 0 ma_37 hfo_69 rfl (vp_in_iff.mpr (by constructor <;> omega)) dX12_meant_27 ?_
      refine lv_topi (fun x_71 ex_71 => ?_)
      have bx_71 : ((-2147483648) ≤ x_71.toInt ∧ x_71.toInt ≤ 2147483647) := ⟨i32_lo _, i32_hi _⟩
      refine lv_goto (tgt := 46) hx hb dX12_meant_28 (by decide) ?_
      exact W.iret (v := x_71) hx hb hr (fun t ht hW => ⟨⟨x_71, f, rfl, ⟨rfl, (by constructor <;> omega)⟩, by rw [ht]; exact hP, va_K.moved hW.alike hK, pl_in hD⟩, hS.F ht⟩) hS.2.2 dX12_meant_46
  · skip
    rw [← Int32.toInt_inj, ti_0] at c_63
    refine lv_iconst (v := (-1)) hx hb dX12_meant_14 (by decide) ?_
    refine lv_goto (tgt := 46) hx hb dX12_meant_15 (by decide) ?_
    exact W.iret (v := (-1)) hx hb hr (fun t ht hW => ⟨⟨(-1), f, rfl, ⟨rfl, (by decide)⟩, by rw [ht]; exact hP, va_K.moved hW.alike hK, pl_in hD⟩, hS.F ht⟩) hS.2.2 dX12_meant_46
set_option maxHeartbeats 8000000 in
set_option maxRecDepth 100000 in
theorem s_X12_takesRow_k12 (l : Launch) (D : va_G) (cI cL cZ cR cG cH : ClassId) (Z : zT) (kd : Nat → Nat) (L : List Nat) (f : Nat → va_E) (hG : GI (okc cI cL cZ cR cG cH L kd) kd L f) (o0 : Nat) (mo0 : o0 ∈ L) (ko0 : kd o0 = 12) : mPI l D cI cL cZ cR cG cH Z yX12_takesRow cX12_takesRow 5 (some .int) 1 23 [.ref o0] L f (fun (r : Int32) (f9 : Nat → va_E) => GI (okc cI cL cZ cR cG cH L kd) kd L f9 ∧ ((-1) ≤ r.toInt ∧ r.toInt ≤ 16) ∧ (∀ b, kd b ≠ 12 → kd b ≠ 588 → f9 b = f b) ∧ (∀ b, kd b = 12 → ∀ j, fldR (f9 b) j = fldR (f b) j) ∧ (∀ b, kd b = 12 → ∀ j, j ≠ 5 → fldI (f9 b) j = fldI (f b) j) ∧ (∀ (w5 z5 : Int32), fldI (f o0) 5 = some w5 → fldI (f9 o0) 5 = some z5 → z5.toInt = 0)) := by
  obtain ⟨dC, dI⟩ := D
  refine Met.ofW (cc := cX12_takesRow) (maxL := 5) (ret := (some .int)) (by decide) rfl ?_
  intro p e s m args below meth c s₁ B hml hv
  obtain ⟨rfl, hP, hK, hD0, hN, hZ⟩ := hv
  have hx := B.exec
  have hb := B.bytes
  have hr := B.returns
  have hU : ∀ w ∈ wsU, w.before _ s = true := fun w h => atoms_spec (ws := wU yX12_takesRow cX12_takesRow 5 (some .int)) B.pre w (List.mem_cons_of_mem _ h)
  have hown : s.vm.findClass RX12 = some m.cls := findClass_of_methodNamed B.named
  have hlocks := B.notSynchronized
  have hD := pl_in hD0
  have hS : va_S (fun q => q ∈ L) s.heap s.heap [] := va_S.rf
  have hl := lv_entry ([.ref o0]) (n := 5) (Nat.le_of_ble_eq_true rfl)
  rw [lg_entry_eq]
  generalize (lg_sl ([.ref o0]) ++ List.replicate (5 - (lg_sl ([.ref o0])).length) Slot.unset).toArray = ls at hl ⊢
  have hl : lv_has ls 5 [(0, .ref o0)] := hl
  have hfr0 : ∀ b, kd b ≠ 12 → kd b ≠ 588 → f b = f b := fun _ _ _ => rfl
  have hrA12 : ∀ b, kd b = 12 → ∀ j, fldR (f b) j = fldR (f b) j := fun _ _ _ => rfl
  have hfA12 : ∀ b, kd b = 12 → ∀ j, j ≠ 5 → fldI (f b) j = fldI (f b) j := fun _ _ _ _ => rfl
  obtain ⟨a_1, a_2, a_3, v_4, a_5, v_6, v_7, v_8, v_9, v_10, v_11, v_12, v_13, v_14, v_15, a_16, a_17, a_18, a_19, a_20, a_21, a_22, a_23, v_24, v_25, v_26, v_27, v_28, a_29, v_30, a_31, a_32, v_33, v_34, a_35, v_36, a_37, a_38, v_39, v_40, a_41, a_42, a_43, v_44, a_45, a_46, a_47, a_48, a_49, a_50, a_51, a_52, a_53, v_54, v_55, a_56, hfo_57, fa_58⟩ := un12 (hG _ mo0) ko0
  obtain ⟨ma_1, ka_1⟩ := fa12_0 fa_58
  obtain ⟨ma_5, ka_5⟩ := fa12_4 fa_58
  have bv_6 : (0 ≤ v_6.toInt ∧ v_6.toInt ≤ 600) := fa12_5 fa_58
  obtain ⟨ma_21, ka_21⟩ := fa12_20 fa_58
  refine lv_aload_n hx hb dX12_takesRow_0 rfl (lv_at hl 0 rfl) ?_
  refine tk_getP (D := (dC, dI)) (ci := 12) (v := .int v_6) (C := RX12) (T := TX12) (N := 56) hx hb hU inlX12 hown hK hP mo0 hfo_57 rfl 5 (by decide) (hU _ wd_218) (fun _ h9 => h9) rfl dX12_takesRow_1 ?_
  refine lv_istore_n (lv' := [(1, .int v_6), (0, .ref o0)]) hx hb dX12_takesRow_4 rfl hl (by decide) rfl (fun ls hl => ?_)
  refine lv_aload_n hx hb dX12_takesRow_5 rfl (lv_at hl 1 rfl) ?_
  refine lv_iconst (v := 0) hx hb dX12_takesRow_6 (by decide) ?_
  refine tk_putP (D := (dC, dI)) (ci := 12) (v := .int 0) (ty := .int) (C := RX12) (T := TX12) (N := 56) hx hb hU inlX12 tyX12 tyX12_ok nmX12 hown hK hP hD hS mo0 hfo_57 rfl 5 (by decide) (hU _ wd_218) (fun _ h9 => h9) rfl (by decide +kernel) rfl rfl (Nat.le_of_ble_eq_true rfl) dX12_takesRow_7 (fun H locs hP hD hS => ?_)
  have fa_59 := fu12_5 (y := 0) fa_58 (by decide)
  obtain ⟨f_61, ef_61⟩ : ∃ y : Nat → va_E, y = va_up f o0 (.inr (12, [.ref a_1, .ref a_2, .ref a_3, .int v_4, .ref a_5, .int 0, .int v_7, .int v_8, .int v_9, .int v_10, .int v_11, .int v_12, .int v_13, .int v_14, .int v_15, .ref a_16, .ref a_17, .ref a_18, .ref a_19, .ref a_20, .ref a_21, .ref a_22, .ref a_23, .int v_24, .int v_25, .int v_26, .int v_27, .int v_28, .ref a_29, .int v_30, .ref a_31, .ref a_32, .int v_33, .int v_34, .ref a_35, .int v_36, .ref a_37, .ref a_38, .int v_39, .int v_40, .ref a_41, .ref a_42, .ref a_43, .int v_44, .ref a_45, .ref a_46, .ref a_47, .ref a_48, .ref a_49, .ref a_50, .ref a_51, .ref a_52, .ref a_53, .int v_54, .int v_55, .ref a_56])) := ⟨_, rfl⟩
  have hP : va_P (dC, dI) vwCl (va_pl L f_61) H := by rw [ef_61]; exact hP
  have hD : va_D (fun q => q ∈ L) (va_pl L f_61) := by rw [ef_61]; exact hD
  have hG : GI (okc cI cL cZ cR cG cH L kd) kd L f_61 := by rw [ef_61]; exact hG.set o0 (mk_12 ko0 (fo12 fa_59))
  have hfr0 : ∀ b, kd b ≠ 12 → kd b ≠ 588 → f_61 b = f b := fun b q12 q588 => (congrFun ef_61 b).trans ((up_ne (fun e9 => q12 (by rw [e9]; exact ko0))).trans (hfr0 b q12 q588))
  have hrA12 : ∀ b, kd b = 12 → ∀ j, fldR (f_61 b) j = fldR (f b) j := fun b kb j => ((congrArg (fun x => fldR x j) (congrFun ef_61 b)).trans (fra_up (fun j => by rw [hfo_57]; exact fr_set (k := 5) rfl rfl) j b)).trans (hrA12 b kb j)
  have hfA12 : ∀ b, kd b = 12 → ∀ j, j ≠ 5 → fldI (f_61 b) j = fldI (f b) j := fun b kb j n5 => ((congrArg (fun x => fldI x j) (congrFun ef_61 b)).trans (fia_up (fun h9 => by rw [hfo_57]; exact fi_set (k := 5) rfl h9) n5 b)).trans (hfA12 b kb j n5)
  have hfo_62 : f_61 o0 = .inr (12, [.ref a_1, .ref a_2, .ref a_3, .int v_4, .ref a_5, .int 0, .int v_7, .int v_8, .int v_9, .int v_10, .int v_11, .int v_12, .int v_13, .int v_14, .int v_15, .ref a_16, .ref a_17, .ref a_18, .ref a_19, .ref a_20, .ref a_21, .ref a_22, .ref a_23, .int v_24, .int v_25, .int v_26, .int v_27, .int v_28, .ref a_29, .int v_30, .ref a_31, .ref a_32, .int v_33, .int v_34, .ref a_35, .int v_36, .ref a_37, .ref a_38, .int v_39, .int v_40, .ref a_41, .ref a_42, .ref a_43, .int v_44, .ref a_45, .ref a_46, .ref a_47, .ref a_48, .ref a_49, .ref a_50, .ref a_51, .ref a_52, .ref a_53, .int v_54, .int v_55, .ref a_56]) := by rw [ef_61]; exact up_self
  refine lv_iload_n hx hb dX12_takesRow_10 rfl (lv_at hl 0 rfl) ?_
  refine lv_iconst (v := 2) hx hb dX12_takesRow_11 (by decide) ?_
  refine lv_irem hx hb dX12_takesRow_12 (by decide) ?_
  refine lv_topi (fun x_63 ex_63 => ?_)
  have hx_63 : x_63.toInt = v_6.toInt % 2 := by rw [ex_63, rm_I (by omega) (by rw [ti_2]; omega), ti_2]
  have bx_63 : (0 ≤ x_63.toInt ∧ x_63.toInt ≤ 1) := by constructor <;> omega
  refine lv_iconst (v := 1) hx hb dX12_takesRow_13 (by decide) ?_
  refine lv_icmp_eq (tgt := 27) hx hb dX12_takesRow_14 (by decide) (fun c_64 => ?_) (fun c_64 => ?_)
  · skip
    rw [← Int32.toInt_inj, ti_1] at c_64
    refine lv_iconst (v := (-1)) hx hb dX12_takesRow_27 (by decide) ?_
    exact W.iret (v := (-1)) hx hb hr (fun t ht hW => ⟨⟨(-1), f_61, rfl, ⟨hG, (by decide), hfr0, hrA12, hfA12, (by intro w5 z5 e5 d5; rw [hfo_57] at e5; rw [hfo_62] at d5; obtain rfl := Option.some.inj e5; obtain rfl := Option.some.inj d5; (try rw [ti_0]) <;> (try rw [ti_m1]) <;> omega)⟩, by rw [ht]; exact hP, va_K.moved hW.alike hK, pl_in hD⟩, hS.F ht⟩) hS.2.2 dX12_takesRow_28
  · skip
    rw [← Int32.toInt_inj, ti_1] at c_64
    refine lv_iload_n hx hb dX12_takesRow_17 rfl (lv_at hl 0 rfl) ?_
    refine lv_iconst (v := 2) hx hb dX12_takesRow_18 (by decide) ?_
    refine lv_bipush (v := 32) hx hb dX12_takesRow_19 (by decide) ?_
    refine tk_SiP (As := [.int v_6, .int 2, .int 32]) (rest := []) (n := 3) hx hb hml hown hU hN hZ (s_X12_isIn l (dC, dI) cI cL cZ cR cG cH Z kd L f_61 hG v_6 2 32) wd_227 wd_228 wd_5 wd_229 (by decide +kernel) ⟨Nat.le_of_ble_eq_true rfl, Nat.le_of_ble_eq_true rfl⟩ hK hP hD hS rfl hl.1 rfl (Nat.le_of_ble_eq_true rfl) dX12_takesRow_21 ⟨Nat.le_of_ble_eq_true rfl, Nat.le_of_ble_eq_true rfl⟩ (fun x_65 f_66 H locs hw hP hD hS => ?_)
    obtain ⟨rfl, bx_65, relx_65⟩ := hw
    try rw [ti_2] at relx_65
    try rw [ti_32] at relx_65
    refine lv_if_ne (tgt := 29) hx hb dX12_takesRow_24 (by decide) (fun c_68 => ?_) (fun c_68 => ?_)
    · skip
      rw [← Int32.toInt_inj, ti_0] at c_68
      refine lv_iconst (v := 0) hx hb dX12_takesRow_29 (by decide) ?_
      refine lv_istore_n (lv' := [(2, .int 0), (1, .int v_6), (0, .ref o0)]) hx hb dX12_takesRow_30 rfl hl (by decide) rfl (fun ls hl => ?_)
      have hloop_84 : ∀ (n : Nat), ∀ (y_85 : Int32), (0 ≤ y_85.toInt ∧ y_85.toInt ≤ 16) → ∀ (f_87 : Nat → va_E), GI (okc cI cL cZ cR cG cH L kd) kd L f_87 → ∀ (H : Heap) (locs : List Loc), va_P (dC, dI) vwCl (va_pl L f_87) H → va_S (fun q => q ∈ L) s.heap H locs → va_D (fun q => q ∈ L) (va_pl L f_87) → (∀ b, kd b ≠ 12 → kd b ≠ 588 → f_87 b = f b) → (∀ b, kd b = 12 → ∀ j, fldR (f_87 b) j = fldR (f b) j) → (∀ b, kd b = 12 → ∀ j, j ≠ 5 → fldI (f_87 b) j = fldI (f b) j) → (f_87 o0 = .inr (12, [.ref a_1, .ref a_2, .ref a_3, .int v_4, .ref a_5, .int 0, .int v_7, .int v_8, .int v_9, .int v_10, .int v_11, .int v_12, .int v_13, .int v_14, .int v_15, .ref a_16, .ref a_17, .ref a_18, .ref a_19, .ref a_20, .ref a_21, .ref a_22, .ref a_23, .int v_24, .int v_25, .int v_26, .int v_27, .int v_28, .ref a_29, .int v_30, .ref a_31, .ref a_32, .int v_33, .int v_34, .ref a_35, .int v_36, .ref a_37, .ref a_38, .int v_39, .int v_40, .ref a_41, .ref a_42, .ref a_43, .int v_44, .ref a_45, .ref a_46, .ref a_47, .ref a_48, .ref a_49, .ref a_50, .ref a_51, .ref a_52, .ref a_53, .int v_54, .int v_55, .ref a_56])) → 16 - y_85.toInt < (n : Int) → ∀ (ls : Array Slot), lv_has ls 5 [(2, .int y_85), (1, .int v_6), (0, .ref o0)] → W p l e (headSpec (wU yX12_takesRow cX12_takesRow 5 (some .int)) { frames := 1, cells := 0, slots := 0, locals := 23 }).room s m [.ref o0].toArray below meth c H locs 0 0 (MQ below (va_Qi (fun (r : Int32) (f9 : Nat → va_E) => GI (okc cI cL cZ cR cG cH L kd) kd L f9 ∧ ((-1) ≤ r.toInt ∧ r.toInt ≤ 16) ∧ (∀ b, kd b ≠ 12 → kd b ≠ 588 → f9 b = f b) ∧ (∀ b, kd b = 12 → ∀ j, fldR (f9 b) j = fldR (f b) j) ∧ (∀ b, kd b = 12 → ∀ j, j ≠ 5 → fldI (f9 b) j = fldI (f b) j) ∧ (∀ (w5 z5 : Int32), fldI (f o0) 5 = some w5 → fldI (f9 o0) 5 = some z5 → z5.toInt = 0)) (qP (dC, dI) cI cL cZ cR cG cH L) (fun q => q ∈ L)) [.ref o0].toArray s 0 0 (fun q => q ∈ L)) (F0 m 31 ls []) := by
        intro n
        induction n with
        | zero => intro y_85 by_85 f_87 hG H locs hP hS hD hfr0 hrA12 hfA12 hfo_88 hmuhloop_84 ls hl; exfalso; omega
        | succ n ih_hloop_84 =>
          intro y_85 by_85 f_87 hG H locs hP hS hD hfr0 hrA12 hfA12 hfo_88 hmuhloop_84 ls hl
          refine lv_iload_n hx hb dX12_takesRow_31 rfl (lv_at hl 0 rfl) ?_
          refine lv_iload_n hx hb dX12_takesRow_32 rfl (lv_at hl 1 rfl) ?_
          refine lv_iconst (v := 2) hx hb dX12_takesRow_33 (by decide) ?_
          refine lv_idiv hx hb dX12_takesRow_34 (by decide) ?_
          refine lv_topi (fun x_89 ex_89 => ?_)
          have hx_89 : x_89.toInt = v_6.toInt / 2 := by rw [ex_89, dv_I (by omega) (by rw [ti_2]; omega), ti_2]
          have bx_89 : (1 ≤ x_89.toInt ∧ x_89.toInt ≤ 16) := by constructor <;> omega
          refine lv_icmp_ge (tgt := 180) hx hb dX12_takesRow_35 (by decide) (fun c_90 => ?_) (fun c_90 => ?_)
          · skip
            rw [Int32.le_iff_toInt_le] at c_90
            refine lv_iload_n hx hb dX12_takesRow_180 rfl (lv_at hl 1 rfl) ?_
            refine lv_iconst (v := 2) hx hb dX12_takesRow_181 (by decide) ?_
            refine lv_idiv hx hb dX12_takesRow_182 (by decide) ?_
            refine lv_topi (fun x_91 ex_91 => ?_)
            have hx_91 : x_91.toInt = v_6.toInt / 2 := by rw [ex_91, dv_I (by omega) (by rw [ti_2]; omega), ti_2]
            have bx_91 : (1 ≤ x_91.toInt ∧ x_91.toInt ≤ 16) := by constructor <;> omega
            exact W.iret (v := x_91) hx hb hr (fun t ht hW => ⟨⟨x_91, f_87, rfl, ⟨hG, (by constructor <;> omega), hfr0, hrA12, hfA12, (by intro w5 z5 e5 d5; rw [hfo_57] at e5; rw [hfo_88] at d5; obtain rfl := Option.some.inj e5; obtain rfl := Option.some.inj d5; (try rw [ti_0]) <;> omega)⟩, by rw [ht]; exact hP, va_K.moved hW.alike hK, pl_in hD⟩, hS.F ht⟩) hS.2.2 dX12_takesRow_183
          · skip
            rw [Int32.le_iff_toInt_le] at c_90
            refine lv_aload_n hx hb dX12_takesRow_38 rfl (lv_at hl 2 rfl) ?_
            refine tk_getP (D := (dC, dI)) (ci := 12) (v := .ref a_5) (C := RX12) (T := TX12) (N := 56) hx hb hU inlX12 hown hK hP mo0 hfo_88 rfl 4 (by decide) (hU _ wd_172) (fun _ h9 => h9) rfl dX12_takesRow_39 ?_
            refine lv_iconst (v := 2) hx hb dX12_takesRow_42 (by decide) ?_
            refine lv_iload_n hx hb dX12_takesRow_43 rfl (lv_at hl 0 rfl) ?_
            refine lv_imul hx hb dX12_takesRow_44 ?_
            refine lv_topi (fun x_92 ex_92 => ?_)
            have hx_92 : x_92.toInt = 2 * y_85.toInt := by rw [ex_92, ml_I (by rw [ti_2]; omega) (by rw [ti_2]; omega), ti_2]
            have bx_92 : (0 ≤ x_92.toInt ∧ x_92.toInt ≤ 30) := by constructor <;> omega
            obtain ⟨g_94, hfo_93, hbg_94⟩ := un_578 (hG _ ma_5) ka_5
            refine tk_ildP hx hb hK hP 0 ma_5 hfo_93 rfl (vp_in_iff.mpr (by constructor <;> omega)) dX12_takesRow_45 ?_
            refine lv_topi (fun x_95 ex_95 => ?_)
            have bx_95 : (0 ≤ x_95.toInt ∧ x_95.toInt ≤ 255) := by rw [ex_95]; exact hbg_94 _
            refine lv_bipush (v := 48) hx hb dX12_takesRow_46 (by decide) ?_
            have hcut_98 : ∀ (y_96 : Int32), (0 ≤ y_96.toInt ∧ y_96.toInt ≤ 8) → ∀ (H : Heap) (locs : List Loc), va_P (dC, dI) vwCl (va_pl L f_87) H → va_S (fun q => q ∈ L) s.heap H locs → ∀ (ls : Array Slot), lv_has ls 5 [(2, .int y_85), (1, .int v_6), (0, .ref o0)] → W p l e (headSpec (wU yX12_takesRow cX12_takesRow 5 (some .int)) { frames := 1, cells := 0, slots := 0, locals := 23 }).room s m [.ref o0].toArray below meth c H locs 0 0 (MQ below (va_Qi (fun (r : Int32) (f9 : Nat → va_E) => GI (okc cI cL cZ cR cG cH L kd) kd L f9 ∧ ((-1) ≤ r.toInt ∧ r.toInt ≤ 16) ∧ (∀ b, kd b ≠ 12 → kd b ≠ 588 → f9 b = f b) ∧ (∀ b, kd b = 12 → ∀ j, fldR (f9 b) j = fldR (f b) j) ∧ (∀ b, kd b = 12 → ∀ j, j ≠ 5 → fldI (f9 b) j = fldI (f b) j) ∧ (∀ (w5 z5 : Int32), fldI (f o0) 5 = some w5 → fldI (f9 o0) 5 = some z5 → z5.toInt = 0)) (qP (dC, dI) cI cL cZ cR cG cH L) (fun q => q ∈ L)) [.ref o0].toArray s 0 0 (fun q => q ∈ L)) (F0 m 70 ls [.int y_96]) := by
              intro y_96 by_96 H locs hP hS ls hl
              refine lv_istore_n (lv' := [(3, .int y_96), (2, .int y_85), (1, .int v_6), (0, .ref o0)]) hx hb dX12_takesRow_70 rfl hl (by decide) rfl (fun ls hl => ?_)
              refine lv_aload_n hx hb dX12_takesRow_71 rfl (lv_at hl 3 rfl) ?_
              refine tk_getP (D := (dC, dI)) (ci := 12) (v := .ref a_5) (C := RX12) (T := TX12) (N := 56) hx hb hU inlX12 hown hK hP mo0 hfo_88 rfl 4 (by decide) (hU _ wd_172) (fun _ h9 => h9) rfl dX12_takesRow_72 ?_
              refine lv_iconst (v := 2) hx hb dX12_takesRow_75 (by decide) ?_
              refine lv_iload_n hx hb dX12_takesRow_76 rfl (lv_at hl 1 rfl) ?_
              refine lv_imul hx hb dX12_takesRow_77 ?_
              refine lv_topi (fun x_99 ex_99 => ?_)
              have hx_99 : x_99.toInt = 2 * y_85.toInt := by rw [ex_99, ml_I (by rw [ti_2]; omega) (by rw [ti_2]; omega), ti_2]
              have bx_99 : (0 ≤ x_99.toInt ∧ x_99.toInt ≤ 30) := by constructor <;> omega
              refine lv_iconst (v := 1) hx hb dX12_takesRow_78 (by decide) ?_
              refine lv_iadd hx hb dX12_takesRow_79 ?_
              refine lv_topi (fun x_100 ex_100 => ?_)
              have hx_100 : x_100.toInt = x_99.toInt + 1 := by rw [ex_100, ad_I (by rw [ti_1]; omega) (by rw [ti_1]; omega), ti_1]
              have bx_100 : (1 ≤ x_100.toInt ∧ x_100.toInt ≤ 31) := by constructor <;> omega
              refine tk_ildP hx hb hK hP 0 ma_5 hfo_93 rfl (vp_in_iff.mpr (by constructor <;> omega)) dX12_takesRow_80 ?_
              refine lv_topi (fun x_101 ex_101 => ?_)
              have bx_101 : (0 ≤ x_101.toInt ∧ x_101.toInt ≤ 255) := by rw [ex_101]; exact hbg_94 _
              refine lv_bipush (v := 48) hx hb dX12_takesRow_81 (by decide) ?_
              have hcut_104 : ∀ (y_102 : Int32), (0 ≤ y_102.toInt ∧ y_102.toInt ≤ 8) → ∀ (H : Heap) (locs : List Loc), va_P (dC, dI) vwCl (va_pl L f_87) H → va_S (fun q => q ∈ L) s.heap H locs → ∀ (ls : Array Slot), lv_has ls 5 [(3, .int y_96), (2, .int y_85), (1, .int v_6), (0, .ref o0)] → W p l e (headSpec (wU yX12_takesRow cX12_takesRow 5 (some .int)) { frames := 1, cells := 0, slots := 0, locals := 23 }).room s m [.ref o0].toArray below meth c H locs 0 0 (MQ below (va_Qi (fun (r : Int32) (f9 : Nat → va_E) => GI (okc cI cL cZ cR cG cH L kd) kd L f9 ∧ ((-1) ≤ r.toInt ∧ r.toInt ≤ 16) ∧ (∀ b, kd b ≠ 12 → kd b ≠ 588 → f9 b = f b) ∧ (∀ b, kd b = 12 → ∀ j, fldR (f9 b) j = fldR (f b) j) ∧ (∀ b, kd b = 12 → ∀ j, j ≠ 5 → fldI (f9 b) j = fldI (f b) j) ∧ (∀ (w5 z5 : Int32), fldI (f o0) 5 = some w5 → fldI (f9 o0) 5 = some z5 → z5.toInt = 0)) (qP (dC, dI) cI cL cZ cR cG cH L) (fun q => q ∈ L)) [.ref o0].toArray s 0 0 (fun q => q ∈ L)) (F0 m 107 ls [.int y_102]) := by
                intro y_102 by_102 H locs hP hS ls hl
                refine lv_istore (lv' := [(4, .int y_102), (3, .int y_96), (2, .int y_85), (1, .int v_6), (0, .ref o0)]) hx hb dX12_takesRow_107 hl (by decide) rfl (fun ls hl => ?_)
                refine lv_iload_n hx hb dX12_takesRow_109 rfl (lv_at hl 1 rfl) ?_
                refine lv_if_ne (tgt := 126) hx hb dX12_takesRow_110 (by decide) (fun c_105 => ?_) (fun c_105 => ?_)
                · skip
                  rw [← Int32.toInt_inj, ti_0] at c_105
                  refine lv_iload hx hb dX12_takesRow_126 (lv_at hl 0 rfl) ?_
                  refine lv_if_ne (tgt := 146) hx hb dX12_takesRow_128 (by decide) (fun c_106 => ?_) (fun c_106 => ?_)
                  · skip
                    rw [← Int32.toInt_inj, ti_0] at c_106
                    refine lv_aload_n hx hb dX12_takesRow_146 rfl (lv_at hl 4 rfl) ?_
                    refine tk_getP (D := (dC, dI)) (ci := 12) (v := .ref a_1) (C := RX12) (T := TX12) (N := 56) hx hb hU inlX12 hown hK hP mo0 hfo_88 rfl 0 (by decide) (hU _ wd_169) (fun _ h9 => h9) rfl dX12_takesRow_147 ?_
                    refine lv_iload_n hx hb dX12_takesRow_150 rfl (lv_at hl 1 rfl) ?_
                    refine lv_iload hx hb dX12_takesRow_151 (lv_at hl 0 rfl) ?_
                    refine tk_SiP (As := [.ref a_1, .int y_96, .int y_102]) (rest := []) (n := 3) hx hb hml hown hU hN hZ (s_X12_hasPair_a575 l (dC, dI) cI cL cZ cR cG cH Z kd L f_87 hG a_1 ma_1 ka_1 y_96 (by constructor <;> omega) y_102 (by constructor <;> omega)) wd_628 wd_629 wd_5 wd_630 (by decide +kernel) ⟨Nat.le_of_ble_eq_true rfl, Nat.le_of_ble_eq_true rfl⟩ hK hP hD hS rfl hl.1 rfl (Nat.le_of_ble_eq_true rfl) dX12_takesRow_153 ⟨Nat.le_of_ble_eq_true rfl, Nat.le_of_ble_eq_true rfl⟩ (fun x_107 f_108 H locs hw hP hD hS => ?_)
                    obtain ⟨rfl, bx_107⟩ := hw
                    refine lv_if_ne (tgt := 161) hx hb dX12_takesRow_156 (by decide) (fun c_110 => ?_) (fun c_110 => ?_)
                    · skip
                      rw [← Int32.toInt_inj, ti_0] at c_110
                      refine lv_aload_n hx hb dX12_takesRow_161 rfl (lv_at hl 4 rfl) ?_
                      refine tk_getP (D := (dC, dI)) (ci := 12) (v := .ref a_21) (C := RX12) (T := TX12) (N := 56) hx hb hU inlX12 hown hK hP mo0 hfo_88 rfl 20 (by decide) (hU _ wd_180) (fun _ h9 => h9) rfl dX12_takesRow_162 ?_
                      refine lv_iload_n hx hb dX12_takesRow_165 rfl (lv_at hl 2 rfl) ?_
                      refine lv_bipush (v := 9) hx hb dX12_takesRow_166 (by decide) ?_
                      refine lv_iload_n hx hb dX12_takesRow_168 rfl (lv_at hl 1 rfl) ?_
                      refine lv_imul hx hb dX12_takesRow_169 ?_
                      refine lv_topi (fun x_111 ex_111 => ?_)
                      have hx_111 : x_111.toInt = 9 * y_96.toInt := by rw [ex_111, ml_I (by rw [ti_9]; omega) (by rw [ti_9]; omega), ti_9]
                      have bx_111 : (9 ≤ x_111.toInt ∧ x_111.toInt ≤ 72) := by constructor <;> omega
                      refine lv_iload hx hb dX12_takesRow_170 (lv_at hl 0 rfl) ?_
                      refine lv_iadd hx hb dX12_takesRow_172 ?_
                      refine lv_topi (fun x_112 ex_112 => ?_)
                      have hx_112 : x_112.toInt = x_111.toInt + y_102.toInt := by rw [ex_112, ad_I (by omega) (by omega)]
                      have bx_112 : (10 ≤ x_112.toInt ∧ x_112.toInt ≤ 80) := by constructor <;> omega
                      obtain ⟨g_114, hfo_113, hbg_114⟩ := un_588 (hG _ ma_21) ka_21
                      refine tk_istP hx hb hK hP hD hS 0 ma_21 hfo_113 rfl (vp_in_iff.mpr (by constructor <;> omega)) dX12_takesRow_173 (fun H locs hP hD hS => ?_)
                      obtain ⟨f_116, ef_116⟩ : ∃ y : Nat → va_E, y = va_up f_87 a_21 (.inl (cI, 20, .inl (upd g_114 (Int32.toNatClampNeg y_85) x_112))) := ⟨_, rfl⟩
                      have hP : va_P (dC, dI) vwCl (va_pl L f_116) H := by rw [ef_116]; exact hP
                      have hD : va_D (fun q => q ∈ L) (va_pl L f_116) := by rw [ef_116]; exact hD
                      have hG : GI (okc cI cL cZ cR cG cH L kd) kd L f_116 := by rw [ef_116]; exact hG.set a_21 (mk_588 ka_21 ⟨_, rfl, okI_up hbg_114 ⟨i32_lo _, i32_hi _⟩ _⟩)
                      have hfo_117 : f_116 o0 = .inr (12, [.ref a_1, .ref a_2, .ref a_3, .int v_4, .ref a_5, .int 0, .int v_7, .int v_8, .int v_9, .int v_10, .int v_11, .int v_12, .int v_13, .int v_14, .int v_15, .ref a_16, .ref a_17, .ref a_18, .ref a_19, .ref a_20, .ref a_21, .ref a_22, .ref a_23, .int v_24, .int v_25, .int v_26, .int v_27, .int v_28, .ref a_29, .int v_30, .ref a_31, .ref a_32, .int v_33, .int v_34, .ref a_35, .int v_36, .ref a_37, .ref a_38, .int v_39, .int v_40, .ref a_41, .ref a_42, .ref a_43, .int v_44, .ref a_45, .ref a_46, .ref a_47, .ref a_48, .ref a_49, .ref a_50, .ref a_51, .ref a_52, .ref a_53, .int v_54, .int v_55, .ref a_56]) := by rw [ef_116, up_ne (kd_ne ka_21 ko0 (by decide))]; exact hfo_88
                      have hfo_118 : f_116 a_5 = .inl (cI, 600, .inl g_94) := by rw [ef_116, up_ne (kd_ne ka_21 ka_5 (by decide))]; exact hfo_93
                      have hfr0 : ∀ b, kd b ≠ 12 → kd b ≠ 588 → f_116 b = f b := fun b q12 q588 => (congrFun ef_116 b).trans ((up_ne (fun e9 => q588 (by rw [e9]; exact ka_21))).trans (hfr0 b q12 q588))
                      have hrA12 : ∀ b, kd b = 12 → ∀ j, fldR (f_116 b) j = fldR (f b) j := fun b kb j => (congrArg (fun x => fldR x j) ((congrFun ef_116 b).trans (up_ne (kd_ne ka_21 kb (by decide))))).trans (hrA12 b kb j)
                      have hfA12 : ∀ b, kd b = 12 → ∀ j, j ≠ 5 → fldI (f_116 b) j = fldI (f b) j := fun b kb j n5 => (congrArg (fun x => fldI x j) ((congrFun ef_116 b).trans (up_ne (kd_ne ka_21 kb (by decide))))).trans (hfA12 b kb j n5)
                      have hfo_119 : f_116 a_21 = .inl (cI, 20, .inl (upd g_114 (Int32.toNatClampNeg y_85) x_112)) := by rw [ef_116]; exact up_self
                      obtain ⟨x_120, ex_120⟩ : ∃ y : Int32, y_85 + 1 = y := ⟨_, rfl⟩
                      have hx_120 : x_120.toInt = y_85.toInt + 1 := by rw [← ex_120, ad_I (by rw [ti_1]; omega) (by rw [ti_1]; omega), ti_1]
                      have bx_120 : (1 ≤ x_120.toInt ∧ x_120.toInt ≤ 16) := by constructor <;> omega
                      refine lv_iinc (v := x_120) (lv' := [(2, .int x_120), (4, .int y_102), (3, .int y_96), (1, .int v_6), (0, .ref o0)]) hx hb dX12_takesRow_174 hl (k := 2) rfl ex_120 (by decide) rfl (fun ls hl => ?_)
                      refine lv_goto (tgt := 31) hx hb dX12_takesRow_177 (by decide) ?_
                      exact ih_hloop_84 x_120 (by constructor <;> omega) f_116 hG _ _ hP hS hD hfr0 hrA12 hfA12 hfo_117 (by omega) ls (lv_sub hl [0, 3, 4] rfl)
                    · skip
                      rw [← Int32.toInt_inj, ti_0] at c_110
                      refine lv_iconst (v := (-1)) hx hb dX12_takesRow_159 (by decide) ?_
                      exact W.iret (v := (-1)) hx hb hr (fun t ht hW => ⟨⟨(-1), f_87, rfl, ⟨hG, (by decide), hfr0, hrA12, hfA12, (by intro w5 z5 e5 d5; rw [hfo_57] at e5; rw [hfo_88] at d5; obtain rfl := Option.some.inj e5; obtain rfl := Option.some.inj d5; (try rw [ti_0]) <;> (try rw [ti_m1]) <;> omega)⟩, by rw [ht]; exact hP, va_K.moved hW.alike hK, pl_in hD⟩, hS.F ht⟩) hS.2.2 dX12_takesRow_160
                  · skip
                    rw [← Int32.toInt_inj, ti_0] at c_106
                    refine lv_aload_n hx hb dX12_takesRow_131 rfl (lv_at hl 4 rfl) ?_
                    refine tk_getP (D := (dC, dI)) (ci := 12) (v := .ref a_5) (C := RX12) (T := TX12) (N := 56) hx hb hU inlX12 hown hK hP mo0 hfo_88 rfl 4 (by decide) (hU _ wd_172) (fun _ h9 => h9) rfl dX12_takesRow_132 ?_
                    refine lv_iconst (v := 2) hx hb dX12_takesRow_135 (by decide) ?_
                    refine lv_iload_n hx hb dX12_takesRow_136 rfl (lv_at hl 2 rfl) ?_
                    refine lv_imul hx hb dX12_takesRow_137 ?_
                    refine lv_topi (fun x_121 ex_121 => ?_)
                    have hx_121 : x_121.toInt = 2 * y_85.toInt := by rw [ex_121, ml_I (by rw [ti_2]; omega) (by rw [ti_2]; omega), ti_2]
                    have bx_121 : (0 ≤ x_121.toInt ∧ x_121.toInt ≤ 30) := by constructor <;> omega
                    refine lv_iconst (v := 1) hx hb dX12_takesRow_138 (by decide) ?_
                    refine lv_iadd hx hb dX12_takesRow_139 ?_
                    refine lv_topi (fun x_122 ex_122 => ?_)
                    have hx_122 : x_122.toInt = x_121.toInt + 1 := by rw [ex_122, ad_I (by rw [ti_1]; omega) (by rw [ti_1]; omega), ti_1]
                    have bx_122 : (1 ≤ x_122.toInt ∧ x_122.toInt ≤ 31) := by constructor <;> omega
                    refine tk_ildP hx hb hK hP 0 ma_5 hfo_93 rfl (vp_in_iff.mpr (by constructor <;> omega)) dX12_takesRow_140 ?_
                    refine lv_topi (fun x_123 ex_123 => ?_)
                    have bx_123 : (0 ≤ x_123.toInt ∧ x_123.toInt ≤ 255) := by rw [ex_123]; exact hbg_94 _
                    refine lv_bipush (v := 48) hx hb dX12_takesRow_141 (by decide) ?_
                    refine lv_icmp_ne (tgt := 159) hx hb dX12_takesRow_143 (by decide) (fun c_124 => ?_) (fun c_124 => ?_)
                    · skip
                      rw [← Int32.toInt_inj, ti_48] at c_124
                      refine lv_iconst (v := (-1)) hx hb dX12_takesRow_159 (by decide) ?_
                      exact W.iret (v := (-1)) hx hb hr (fun t ht hW => ⟨⟨(-1), f_87, rfl, ⟨hG, (by decide), hfr0, hrA12, hfA12, (by intro w5 z5 e5 d5; rw [hfo_57] at e5; rw [hfo_88] at d5; obtain rfl := Option.some.inj e5; obtain rfl := Option.some.inj d5; (try rw [ti_0]) <;> (try rw [ti_m1]) <;> omega)⟩, by rw [ht]; exact hP, va_K.moved hW.alike hK, pl_in hD⟩, hS.F ht⟩) hS.2.2 dX12_takesRow_160
                    · skip
                      rw [← Int32.toInt_inj, ti_48] at c_124
                      refine lv_aload_n hx hb dX12_takesRow_146 rfl (lv_at hl 4 rfl) ?_
                      refine tk_getP (D := (dC, dI)) (ci := 12) (v := .ref a_1) (C := RX12) (T := TX12) (N := 56) hx hb hU inlX12 hown hK hP mo0 hfo_88 rfl 0 (by decide) (hU _ wd_169) (fun _ h9 => h9) rfl dX12_takesRow_147 ?_
                      refine lv_iload_n hx hb dX12_takesRow_150 rfl (lv_at hl 1 rfl) ?_
                      refine lv_iload hx hb dX12_takesRow_151 (lv_at hl 0 rfl) ?_
                      refine tk_SiP (As := [.ref a_1, .int y_96, .int y_102]) (rest := []) (n := 3) hx hb hml hown hU hN hZ (s_X12_hasPair_a575 l (dC, dI) cI cL cZ cR cG cH Z kd L f_87 hG a_1 ma_1 ka_1 y_96 (by constructor <;> omega) y_102 (by constructor <;> omega)) wd_628 wd_629 wd_5 wd_630 (by decide +kernel) ⟨Nat.le_of_ble_eq_true rfl, Nat.le_of_ble_eq_true rfl⟩ hK hP hD hS rfl hl.1 rfl (Nat.le_of_ble_eq_true rfl) dX12_takesRow_153 ⟨Nat.le_of_ble_eq_true rfl, Nat.le_of_ble_eq_true rfl⟩ (fun x_125 f_126 H locs hw hP hD hS => ?_)
                      obtain ⟨rfl, bx_125⟩ := hw
                      refine lv_if_ne (tgt := 161) hx hb dX12_takesRow_156 (by decide) (fun c_128 => ?_) (fun c_128 => ?_)
                      · skip
                        rw [← Int32.toInt_inj, ti_0] at c_128
                        refine lv_aload_n hx hb dX12_takesRow_161 rfl (lv_at hl 4 rfl) ?_
                        refine tk_getP (D := (dC, dI)) (ci := 12) (v := .ref a_21) (C := RX12) (T := TX12) (N := 56) hx hb hU inlX12 hown hK hP mo0 hfo_88 rfl 20 (by decide) (hU _ wd_180) (fun _ h9 => h9) rfl dX12_takesRow_162 ?_
                        refine lv_iload_n hx hb dX12_takesRow_165 rfl (lv_at hl 2 rfl) ?_
                        refine lv_bipush (v := 9) hx hb dX12_takesRow_166 (by decide) ?_
                        refine lv_iload_n hx hb dX12_takesRow_168 rfl (lv_at hl 1 rfl) ?_
                        refine lv_imul hx hb dX12_takesRow_169 ?_
                        refine lv_topi (fun x_129 ex_129 => ?_)
                        have hx_129 : x_129.toInt = 9 * y_96.toInt := by rw [ex_129, ml_I (by rw [ti_9]; omega) (by rw [ti_9]; omega), ti_9]
                        have bx_129 : (9 ≤ x_129.toInt ∧ x_129.toInt ≤ 72) := by constructor <;> omega
                        refine lv_iload hx hb dX12_takesRow_170 (lv_at hl 0 rfl) ?_
                        refine lv_iadd hx hb dX12_takesRow_172 ?_
                        refine lv_topi (fun x_130 ex_130 => ?_)
                        have hx_130 : x_130.toInt = x_129.toInt + y_102.toInt := by rw [ex_130, ad_I (by omega) (by omega)]
                        have bx_130 : (9 ≤ x_130.toInt ∧ x_130.toInt ≤ 72) := by constructor <;> omega
                        obtain ⟨g_132, hfo_131, hbg_132⟩ := un_588 (hG _ ma_21) ka_21
                        refine tk_istP hx hb hK hP hD hS 0 ma_21 hfo_131 rfl (vp_in_iff.mpr (by constructor <;> omega)) dX12_takesRow_173 (fun H locs hP hD hS => ?_)
                        obtain ⟨f_134, ef_134⟩ : ∃ y : Nat → va_E, y = va_up f_87 a_21 (.inl (cI, 20, .inl (upd g_132 (Int32.toNatClampNeg y_85) x_130))) := ⟨_, rfl⟩
                        have hP : va_P (dC, dI) vwCl (va_pl L f_134) H := by rw [ef_134]; exact hP
                        have hD : va_D (fun q => q ∈ L) (va_pl L f_134) := by rw [ef_134]; exact hD
                        have hG : GI (okc cI cL cZ cR cG cH L kd) kd L f_134 := by rw [ef_134]; exact hG.set a_21 (mk_588 ka_21 ⟨_, rfl, okI_up hbg_132 ⟨i32_lo _, i32_hi _⟩ _⟩)
                        have hfo_135 : f_134 o0 = .inr (12, [.ref a_1, .ref a_2, .ref a_3, .int v_4, .ref a_5, .int 0, .int v_7, .int v_8, .int v_9, .int v_10, .int v_11, .int v_12, .int v_13, .int v_14, .int v_15, .ref a_16, .ref a_17, .ref a_18, .ref a_19, .ref a_20, .ref a_21, .ref a_22, .ref a_23, .int v_24, .int v_25, .int v_26, .int v_27, .int v_28, .ref a_29, .int v_30, .ref a_31, .ref a_32, .int v_33, .int v_34, .ref a_35, .int v_36, .ref a_37, .ref a_38, .int v_39, .int v_40, .ref a_41, .ref a_42, .ref a_43, .int v_44, .ref a_45, .ref a_46, .ref a_47, .ref a_48, .ref a_49, .ref a_50, .ref a_51, .ref a_52, .ref a_53, .int v_54, .int v_55, .ref a_56]) := by rw [ef_134, up_ne (kd_ne ka_21 ko0 (by decide))]; exact hfo_88
                        have hfo_136 : f_134 a_5 = .inl (cI, 600, .inl g_94) := by rw [ef_134, up_ne (kd_ne ka_21 ka_5 (by decide))]; exact hfo_93
                        have hfr0 : ∀ b, kd b ≠ 12 → kd b ≠ 588 → f_134 b = f b := fun b q12 q588 => (congrFun ef_134 b).trans ((up_ne (fun e9 => q588 (by rw [e9]; exact ka_21))).trans (hfr0 b q12 q588))
                        have hrA12 : ∀ b, kd b = 12 → ∀ j, fldR (f_134 b) j = fldR (f b) j := fun b kb j => (congrArg (fun x => fldR x j) ((congrFun ef_134 b).trans (up_ne (kd_ne ka_21 kb (by decide))))).trans (hrA12 b kb j)
                        have hfA12 : ∀ b, kd b = 12 → ∀ j, j ≠ 5 → fldI (f_134 b) j = fldI (f b) j := fun b kb j n5 => (congrArg (fun x => fldI x j) ((congrFun ef_134 b).trans (up_ne (kd_ne ka_21 kb (by decide))))).trans (hfA12 b kb j n5)
                        have hfo_137 : f_134 a_21 = .inl (cI, 20, .inl (upd g_132 (Int32.toNatClampNeg y_85) x_130)) := by rw [ef_134]; exact up_self
                        obtain ⟨x_138, ex_138⟩ : ∃ y : Int32, y_85 + 1 = y := ⟨_, rfl⟩
                        have hx_138 : x_138.toInt = y_85.toInt + 1 := by rw [← ex_138, ad_I (by rw [ti_1]; omega) (by rw [ti_1]; omega), ti_1]
                        have bx_138 : (1 ≤ x_138.toInt ∧ x_138.toInt ≤ 16) := by constructor <;> omega
                        refine lv_iinc (v := x_138) (lv' := [(2, .int x_138), (4, .int y_102), (3, .int y_96), (1, .int v_6), (0, .ref o0)]) hx hb dX12_takesRow_174 hl (k := 2) rfl ex_138 (by decide) rfl (fun ls hl => ?_)
                        refine lv_goto (tgt := 31) hx hb dX12_takesRow_177 (by decide) ?_
                        exact ih_hloop_84 x_138 (by constructor <;> omega) f_134 hG _ _ hP hS hD hfr0 hrA12 hfA12 hfo_135 (by omega) ls (lv_sub hl [0, 3, 4] rfl)
                      · skip
                        rw [← Int32.toInt_inj, ti_0] at c_128
                        refine lv_iconst (v := (-1)) hx hb dX12_takesRow_159 (by decide) ?_
                        exact W.iret (v := (-1)) hx hb hr (fun t ht hW => ⟨⟨(-1), f_87, rfl, ⟨hG, (by decide), hfr0, hrA12, hfA12, (by intro w5 z5 e5 d5; rw [hfo_57] at e5; rw [hfo_88] at d5; obtain rfl := Option.some.inj e5; obtain rfl := Option.some.inj d5; (try rw [ti_0]) <;> (try rw [ti_m1]) <;> omega)⟩, by rw [ht]; exact hP, va_K.moved hW.alike hK, pl_in hD⟩, hS.F ht⟩) hS.2.2 dX12_takesRow_160
                · skip
                  rw [← Int32.toInt_inj, ti_0] at c_105
                  refine lv_aload_n hx hb dX12_takesRow_113 rfl (lv_at hl 4 rfl) ?_
                  refine tk_getP (D := (dC, dI)) (ci := 12) (v := .ref a_5) (C := RX12) (T := TX12) (N := 56) hx hb hU inlX12 hown hK hP mo0 hfo_88 rfl 4 (by decide) (hU _ wd_172) (fun _ h9 => h9) rfl dX12_takesRow_114 ?_
                  refine lv_iconst (v := 2) hx hb dX12_takesRow_117 (by decide) ?_
                  refine lv_iload_n hx hb dX12_takesRow_118 rfl (lv_at hl 2 rfl) ?_
                  refine lv_imul hx hb dX12_takesRow_119 ?_
                  refine lv_topi (fun x_139 ex_139 => ?_)
                  have hx_139 : x_139.toInt = 2 * y_85.toInt := by rw [ex_139, ml_I (by rw [ti_2]; omega) (by rw [ti_2]; omega), ti_2]
                  have bx_139 : (0 ≤ x_139.toInt ∧ x_139.toInt ≤ 30) := by constructor <;> omega
                  refine tk_ildP hx hb hK hP 0 ma_5 hfo_93 rfl (vp_in_iff.mpr (by constructor <;> omega)) dX12_takesRow_120 ?_
                  refine lv_topi (fun x_140 ex_140 => ?_)
                  have bx_140 : (0 ≤ x_140.toInt ∧ x_140.toInt ≤ 255) := by rw [ex_140]; exact hbg_94 _
                  refine lv_bipush (v := 48) hx hb dX12_takesRow_121 (by decide) ?_
                  refine lv_icmp_ne (tgt := 159) hx hb dX12_takesRow_123 (by decide) (fun c_141 => ?_) (fun c_141 => ?_)
                  · skip
                    rw [← Int32.toInt_inj, ti_48] at c_141
                    refine lv_iconst (v := (-1)) hx hb dX12_takesRow_159 (by decide) ?_
                    exact W.iret (v := (-1)) hx hb hr (fun t ht hW => ⟨⟨(-1), f_87, rfl, ⟨hG, (by decide), hfr0, hrA12, hfA12, (by intro w5 z5 e5 d5; rw [hfo_57] at e5; rw [hfo_88] at d5; obtain rfl := Option.some.inj e5; obtain rfl := Option.some.inj d5; (try rw [ti_0]) <;> (try rw [ti_m1]) <;> omega)⟩, by rw [ht]; exact hP, va_K.moved hW.alike hK, pl_in hD⟩, hS.F ht⟩) hS.2.2 dX12_takesRow_160
                  · skip
                    rw [← Int32.toInt_inj, ti_48] at c_141
                    refine lv_iload hx hb dX12_takesRow_126 (lv_at hl 0 rfl) ?_
                    refine lv_if_ne (tgt := 146) hx hb dX12_takesRow_128 (by decide) (fun c_142 => ?_) (fun c_142 => ?_)
                    · skip
                      rw [← Int32.toInt_inj, ti_0] at c_142
                      refine lv_aload_n hx hb dX12_takesRow_146 rfl (lv_at hl 4 rfl) ?_
                      refine tk_getP (D := (dC, dI)) (ci := 12) (v := .ref a_1) (C := RX12) (T := TX12) (N := 56) hx hb hU inlX12 hown hK hP mo0 hfo_88 rfl 0 (by decide) (hU _ wd_169) (fun _ h9 => h9) rfl dX12_takesRow_147 ?_
                      refine lv_iload_n hx hb dX12_takesRow_150 rfl (lv_at hl 1 rfl) ?_
                      refine lv_iload hx hb dX12_takesRow_151 (lv_at hl 0 rfl) ?_
                      refine tk_SiP (As := [.ref a_1, .int y_96, .int y_102]) (rest := []) (n := 3) hx hb hml hown hU hN hZ (s_X12_hasPair_a575 l (dC, dI) cI cL cZ cR cG cH Z kd L f_87 hG a_1 ma_1 ka_1 y_96 (by constructor <;> omega) y_102 (by constructor <;> omega)) wd_628 wd_629 wd_5 wd_630 (by decide +kernel) ⟨Nat.le_of_ble_eq_true rfl, Nat.le_of_ble_eq_true rfl⟩ hK hP hD hS rfl hl.1 rfl (Nat.le_of_ble_eq_true rfl) dX12_takesRow_153 ⟨Nat.le_of_ble_eq_true rfl, Nat.le_of_ble_eq_true rfl⟩ (fun x_143 f_144 H locs hw hP hD hS => ?_)
                      obtain ⟨rfl, bx_143⟩ := hw
                      refine lv_if_ne (tgt := 161) hx hb dX12_takesRow_156 (by decide) (fun c_146 => ?_) (fun c_146 => ?_)
                      · skip
                        rw [← Int32.toInt_inj, ti_0] at c_146
                        refine lv_aload_n hx hb dX12_takesRow_161 rfl (lv_at hl 4 rfl) ?_
                        refine tk_getP (D := (dC, dI)) (ci := 12) (v := .ref a_21) (C := RX12) (T := TX12) (N := 56) hx hb hU inlX12 hown hK hP mo0 hfo_88 rfl 20 (by decide) (hU _ wd_180) (fun _ h9 => h9) rfl dX12_takesRow_162 ?_
                        refine lv_iload_n hx hb dX12_takesRow_165 rfl (lv_at hl 2 rfl) ?_
                        refine lv_bipush (v := 9) hx hb dX12_takesRow_166 (by decide) ?_
                        refine lv_iload_n hx hb dX12_takesRow_168 rfl (lv_at hl 1 rfl) ?_
                        refine lv_imul hx hb dX12_takesRow_169 ?_
                        refine lv_topi (fun x_147 ex_147 => ?_)
                        have hx_147 : x_147.toInt = 9 * y_96.toInt := by rw [ex_147, ml_I (by rw [ti_9]; omega) (by rw [ti_9]; omega), ti_9]
                        have bx_147 : (0 ≤ x_147.toInt ∧ x_147.toInt ≤ 0) := by constructor <;> omega
                        refine lv_iload hx hb dX12_takesRow_170 (lv_at hl 0 rfl) ?_
                        refine lv_iadd hx hb dX12_takesRow_172 ?_
                        refine lv_topi (fun x_148 ex_148 => ?_)
                        have hx_148 : x_148.toInt = x_147.toInt + y_102.toInt := by rw [ex_148, ad_I (by omega) (by omega)]
                        have bx_148 : (1 ≤ x_148.toInt ∧ x_148.toInt ≤ 8) := by constructor <;> omega
                        obtain ⟨g_150, hfo_149, hbg_150⟩ := un_588 (hG _ ma_21) ka_21
                        refine tk_istP hx hb hK hP hD hS 0 ma_21 hfo_149 rfl (vp_in_iff.mpr (by constructor <;> omega)) dX12_takesRow_173 (fun H locs hP hD hS => ?_)
                        obtain ⟨f_152, ef_152⟩ : ∃ y : Nat → va_E, y = va_up f_87 a_21 (.inl (cI, 20, .inl (upd g_150 (Int32.toNatClampNeg y_85) x_148))) := ⟨_, rfl⟩
                        have hP : va_P (dC, dI) vwCl (va_pl L f_152) H := by rw [ef_152]; exact hP
                        have hD : va_D (fun q => q ∈ L) (va_pl L f_152) := by rw [ef_152]; exact hD
                        have hG : GI (okc cI cL cZ cR cG cH L kd) kd L f_152 := by rw [ef_152]; exact hG.set a_21 (mk_588 ka_21 ⟨_, rfl, okI_up hbg_150 ⟨i32_lo _, i32_hi _⟩ _⟩)
                        have hfo_153 : f_152 o0 = .inr (12, [.ref a_1, .ref a_2, .ref a_3, .int v_4, .ref a_5, .int 0, .int v_7, .int v_8, .int v_9, .int v_10, .int v_11, .int v_12, .int v_13, .int v_14, .int v_15, .ref a_16, .ref a_17, .ref a_18, .ref a_19, .ref a_20, .ref a_21, .ref a_22, .ref a_23, .int v_24, .int v_25, .int v_26, .int v_27, .int v_28, .ref a_29, .int v_30, .ref a_31, .ref a_32, .int v_33, .int v_34, .ref a_35, .int v_36, .ref a_37, .ref a_38, .int v_39, .int v_40, .ref a_41, .ref a_42, .ref a_43, .int v_44, .ref a_45, .ref a_46, .ref a_47, .ref a_48, .ref a_49, .ref a_50, .ref a_51, .ref a_52, .ref a_53, .int v_54, .int v_55, .ref a_56]) := by rw [ef_152, up_ne (kd_ne ka_21 ko0 (by decide))]; exact hfo_88
                        have hfo_154 : f_152 a_5 = .inl (cI, 600, .inl g_94) := by rw [ef_152, up_ne (kd_ne ka_21 ka_5 (by decide))]; exact hfo_93
                        have hfr0 : ∀ b, kd b ≠ 12 → kd b ≠ 588 → f_152 b = f b := fun b q12 q588 => (congrFun ef_152 b).trans ((up_ne (fun e9 => q588 (by rw [e9]; exact ka_21))).trans (hfr0 b q12 q588))
                        have hrA12 : ∀ b, kd b = 12 → ∀ j, fldR (f_152 b) j = fldR (f b) j := fun b kb j => (congrArg (fun x => fldR x j) ((congrFun ef_152 b).trans (up_ne (kd_ne ka_21 kb (by decide))))).trans (hrA12 b kb j)
                        have hfA12 : ∀ b, kd b = 12 → ∀ j, j ≠ 5 → fldI (f_152 b) j = fldI (f b) j := fun b kb j n5 => (congrArg (fun x => fldI x j) ((congrFun ef_152 b).trans (up_ne (kd_ne ka_21 kb (by decide))))).trans (hfA12 b kb j n5)
                        have hfo_155 : f_152 a_21 = .inl (cI, 20, .inl (upd g_150 (Int32.toNatClampNeg y_85) x_148)) := by rw [ef_152]; exact up_self
                        obtain ⟨x_156, ex_156⟩ : ∃ y : Int32, y_85 + 1 = y := ⟨_, rfl⟩
                        have hx_156 : x_156.toInt = y_85.toInt + 1 := by rw [← ex_156, ad_I (by rw [ti_1]; omega) (by rw [ti_1]; omega), ti_1]
                        have bx_156 : (1 ≤ x_156.toInt ∧ x_156.toInt ≤ 16) := by constructor <;> omega
                        refine lv_iinc (v := x_156) (lv' := [(2, .int x_156), (4, .int y_102), (3, .int y_96), (1, .int v_6), (0, .ref o0)]) hx hb dX12_takesRow_174 hl (k := 2) rfl ex_156 (by decide) rfl (fun ls hl => ?_)
                        refine lv_goto (tgt := 31) hx hb dX12_takesRow_177 (by decide) ?_
                        exact ih_hloop_84 x_156 (by constructor <;> omega) f_152 hG _ _ hP hS hD hfr0 hrA12 hfA12 hfo_153 (by omega) ls (lv_sub hl [0, 3, 4] rfl)
                      · skip
                        rw [← Int32.toInt_inj, ti_0] at c_146
                        refine lv_iconst (v := (-1)) hx hb dX12_takesRow_159 (by decide) ?_
                        exact W.iret (v := (-1)) hx hb hr (fun t ht hW => ⟨⟨(-1), f_87, rfl, ⟨hG, (by decide), hfr0, hrA12, hfA12, (by intro w5 z5 e5 d5; rw [hfo_57] at e5; rw [hfo_88] at d5; obtain rfl := Option.some.inj e5; obtain rfl := Option.some.inj d5; (try rw [ti_0]) <;> (try rw [ti_m1]) <;> omega)⟩, by rw [ht]; exact hP, va_K.moved hW.alike hK, pl_in hD⟩, hS.F ht⟩) hS.2.2 dX12_takesRow_160
                    · skip
                      rw [← Int32.toInt_inj, ti_0] at c_142
                      refine lv_aload_n hx hb dX12_takesRow_131 rfl (lv_at hl 4 rfl) ?_
                      refine tk_getP (D := (dC, dI)) (ci := 12) (v := .ref a_5) (C := RX12) (T := TX12) (N := 56) hx hb hU inlX12 hown hK hP mo0 hfo_88 rfl 4 (by decide) (hU _ wd_172) (fun _ h9 => h9) rfl dX12_takesRow_132 ?_
                      refine lv_iconst (v := 2) hx hb dX12_takesRow_135 (by decide) ?_
                      refine lv_iload_n hx hb dX12_takesRow_136 rfl (lv_at hl 2 rfl) ?_
                      refine lv_imul hx hb dX12_takesRow_137 ?_
                      refine lv_topi (fun x_157 ex_157 => ?_)
                      have hx_157 : x_157.toInt = 2 * y_85.toInt := by rw [ex_157, ml_I (by rw [ti_2]; omega) (by rw [ti_2]; omega), ti_2]
                      have bx_157 : (0 ≤ x_157.toInt ∧ x_157.toInt ≤ 30) := by constructor <;> omega
                      refine lv_iconst (v := 1) hx hb dX12_takesRow_138 (by decide) ?_
                      refine lv_iadd hx hb dX12_takesRow_139 ?_
                      refine lv_topi (fun x_158 ex_158 => ?_)
                      have hx_158 : x_158.toInt = x_157.toInt + 1 := by rw [ex_158, ad_I (by rw [ti_1]; omega) (by rw [ti_1]; omega), ti_1]
                      have bx_158 : (1 ≤ x_158.toInt ∧ x_158.toInt ≤ 31) := by constructor <;> omega
                      refine tk_ildP hx hb hK hP 0 ma_5 hfo_93 rfl (vp_in_iff.mpr (by constructor <;> omega)) dX12_takesRow_140 ?_
                      refine lv_topi (fun x_159 ex_159 => ?_)
                      have bx_159 : (0 ≤ x_159.toInt ∧ x_159.toInt ≤ 255) := by rw [ex_159]; exact hbg_94 _
                      refine lv_bipush (v := 48) hx hb dX12_takesRow_141 (by decide) ?_
                      refine lv_icmp_ne (tgt := 159) hx hb dX12_takesRow_143 (by decide) (fun c_160 => ?_) (fun c_160 => ?_)
                      · skip
                        rw [← Int32.toInt_inj, ti_48] at c_160
                        refine lv_iconst (v := (-1)) hx hb dX12_takesRow_159 (by decide) ?_
                        exact W.iret (v := (-1)) hx hb hr (fun t ht hW => ⟨⟨(-1), f_87, rfl, ⟨hG, (by decide), hfr0, hrA12, hfA12, (by intro w5 z5 e5 d5; rw [hfo_57] at e5; rw [hfo_88] at d5; obtain rfl := Option.some.inj e5; obtain rfl := Option.some.inj d5; (try rw [ti_0]) <;> (try rw [ti_m1]) <;> omega)⟩, by rw [ht]; exact hP, va_K.moved hW.alike hK, pl_in hD⟩, hS.F ht⟩) hS.2.2 dX12_takesRow_160
                      · skip
                        rw [← Int32.toInt_inj, ti_48] at c_160
                        refine lv_aload_n hx hb dX12_takesRow_146 rfl (lv_at hl 4 rfl) ?_
                        refine tk_getP (D := (dC, dI)) (ci := 12) (v := .ref a_1) (C := RX12) (T := TX12) (N := 56) hx hb hU inlX12 hown hK hP mo0 hfo_88 rfl 0 (by decide) (hU _ wd_169) (fun _ h9 => h9) rfl dX12_takesRow_147 ?_
                        refine lv_iload_n hx hb dX12_takesRow_150 rfl (lv_at hl 1 rfl) ?_
                        refine lv_iload hx hb dX12_takesRow_151 (lv_at hl 0 rfl) ?_
                        refine tk_SiP (As := [.ref a_1, .int y_96, .int y_102]) (rest := []) (n := 3) hx hb hml hown hU hN hZ (s_X12_hasPair_a575 l (dC, dI) cI cL cZ cR cG cH Z kd L f_87 hG a_1 ma_1 ka_1 y_96 (by constructor <;> omega) y_102 (by constructor <;> omega)) wd_628 wd_629 wd_5 wd_630 (by decide +kernel) ⟨Nat.le_of_ble_eq_true rfl, Nat.le_of_ble_eq_true rfl⟩ hK hP hD hS rfl hl.1 rfl (Nat.le_of_ble_eq_true rfl) dX12_takesRow_153 ⟨Nat.le_of_ble_eq_true rfl, Nat.le_of_ble_eq_true rfl⟩ (fun x_161 f_162 H locs hw hP hD hS => ?_)
                        obtain ⟨rfl, bx_161⟩ := hw
                        refine lv_if_ne (tgt := 161) hx hb dX12_takesRow_156 (by decide) (fun c_164 => ?_) (fun c_164 => ?_)
                        · skip
                          rw [← Int32.toInt_inj, ti_0] at c_164
                          refine lv_aload_n hx hb dX12_takesRow_161 rfl (lv_at hl 4 rfl) ?_
                          refine tk_getP (D := (dC, dI)) (ci := 12) (v := .ref a_21) (C := RX12) (T := TX12) (N := 56) hx hb hU inlX12 hown hK hP mo0 hfo_88 rfl 20 (by decide) (hU _ wd_180) (fun _ h9 => h9) rfl dX12_takesRow_162 ?_
                          refine lv_iload_n hx hb dX12_takesRow_165 rfl (lv_at hl 2 rfl) ?_
                          refine lv_bipush (v := 9) hx hb dX12_takesRow_166 (by decide) ?_
                          refine lv_iload_n hx hb dX12_takesRow_168 rfl (lv_at hl 1 rfl) ?_
                          refine lv_imul hx hb dX12_takesRow_169 ?_
                          refine lv_topi (fun x_165 ex_165 => ?_)
                          have hx_165 : x_165.toInt = 9 * y_96.toInt := by rw [ex_165, ml_I (by rw [ti_9]; omega) (by rw [ti_9]; omega), ti_9]
                          have bx_165 : (0 ≤ x_165.toInt ∧ x_165.toInt ≤ 0) := by constructor <;> omega
                          refine lv_iload hx hb dX12_takesRow_170 (lv_at hl 0 rfl) ?_
                          refine lv_iadd hx hb dX12_takesRow_172 ?_
                          refine lv_topi (fun x_166 ex_166 => ?_)
                          have hx_166 : x_166.toInt = x_165.toInt + y_102.toInt := by rw [ex_166, ad_I (by omega) (by omega)]
                          have bx_166 : (0 ≤ x_166.toInt ∧ x_166.toInt ≤ 0) := by constructor <;> omega
                          obtain ⟨g_168, hfo_167, hbg_168⟩ := un_588 (hG _ ma_21) ka_21
                          refine tk_istP hx hb hK hP hD hS 0 ma_21 hfo_167 rfl (vp_in_iff.mpr (by constructor <;> omega)) dX12_takesRow_173 (fun H locs hP hD hS => ?_)
                          obtain ⟨f_170, ef_170⟩ : ∃ y : Nat → va_E, y = va_up f_87 a_21 (.inl (cI, 20, .inl (upd g_168 (Int32.toNatClampNeg y_85) x_166))) := ⟨_, rfl⟩
                          have hP : va_P (dC, dI) vwCl (va_pl L f_170) H := by rw [ef_170]; exact hP
                          have hD : va_D (fun q => q ∈ L) (va_pl L f_170) := by rw [ef_170]; exact hD
                          have hG : GI (okc cI cL cZ cR cG cH L kd) kd L f_170 := by rw [ef_170]; exact hG.set a_21 (mk_588 ka_21 ⟨_, rfl, okI_up hbg_168 ⟨i32_lo _, i32_hi _⟩ _⟩)
                          have hfo_171 : f_170 o0 = .inr (12, [.ref a_1, .ref a_2, .ref a_3, .int v_4, .ref a_5, .int 0, .int v_7, .int v_8, .int v_9, .int v_10, .int v_11, .int v_12, .int v_13, .int v_14, .int v_15, .ref a_16, .ref a_17, .ref a_18, .ref a_19, .ref a_20, .ref a_21, .ref a_22, .ref a_23, .int v_24, .int v_25, .int v_26, .int v_27, .int v_28, .ref a_29, .int v_30, .ref a_31, .ref a_32, .int v_33, .int v_34, .ref a_35, .int v_36, .ref a_37, .ref a_38, .int v_39, .int v_40, .ref a_41, .ref a_42, .ref a_43, .int v_44, .ref a_45, .ref a_46, .ref a_47, .ref a_48, .ref a_49, .ref a_50, .ref a_51, .ref a_52, .ref a_53, .int v_54, .int v_55, .ref a_56]) := by rw [ef_170, up_ne (kd_ne ka_21 ko0 (by decide))]; exact hfo_88
                          have hfo_172 : f_170 a_5 = .inl (cI, 600, .inl g_94) := by rw [ef_170, up_ne (kd_ne ka_21 ka_5 (by decide))]; exact hfo_93
                          have hfr0 : ∀ b, kd b ≠ 12 → kd b ≠ 588 → f_170 b = f b := fun b q12 q588 => (congrFun ef_170 b).trans ((up_ne (fun e9 => q588 (by rw [e9]; exact ka_21))).trans (hfr0 b q12 q588))
                          have hrA12 : ∀ b, kd b = 12 → ∀ j, fldR (f_170 b) j = fldR (f b) j := fun b kb j => (congrArg (fun x => fldR x j) ((congrFun ef_170 b).trans (up_ne (kd_ne ka_21 kb (by decide))))).trans (hrA12 b kb j)
                          have hfA12 : ∀ b, kd b = 12 → ∀ j, j ≠ 5 → fldI (f_170 b) j = fldI (f b) j := fun b kb j n5 => (congrArg (fun x => fldI x j) ((congrFun ef_170 b).trans (up_ne (kd_ne ka_21 kb (by decide))))).trans (hfA12 b kb j n5)
                          have hfo_173 : f_170 a_21 = .inl (cI, 20, .inl (upd g_168 (Int32.toNatClampNeg y_85) x_166)) := by rw [ef_170]; exact up_self
                          obtain ⟨x_174, ex_174⟩ : ∃ y : Int32, y_85 + 1 = y := ⟨_, rfl⟩
                          have hx_174 : x_174.toInt = y_85.toInt + 1 := by rw [← ex_174, ad_I (by rw [ti_1]; omega) (by rw [ti_1]; omega), ti_1]
                          have bx_174 : (1 ≤ x_174.toInt ∧ x_174.toInt ≤ 16) := by constructor <;> omega
                          refine lv_iinc (v := x_174) (lv' := [(2, .int x_174), (4, .int y_102), (3, .int y_96), (1, .int v_6), (0, .ref o0)]) hx hb dX12_takesRow_174 hl (k := 2) rfl ex_174 (by decide) rfl (fun ls hl => ?_)
                          refine lv_goto (tgt := 31) hx hb dX12_takesRow_177 (by decide) ?_
                          exact ih_hloop_84 x_174 (by constructor <;> omega) f_170 hG _ _ hP hS hD hfr0 hrA12 hfA12 hfo_171 (by omega) ls (lv_sub hl [0, 3, 4] rfl)
                        · skip
                          rw [← Int32.toInt_inj, ti_0] at c_164
                          refine lv_iconst (v := (-1)) hx hb dX12_takesRow_159 (by decide) ?_
                          exact W.iret (v := (-1)) hx hb hr (fun t ht hW => ⟨⟨(-1), f_87, rfl, ⟨hG, (by decide), hfr0, hrA12, hfA12, (by intro w5 z5 e5 d5; rw [hfo_57] at e5; rw [hfo_88] at d5; obtain rfl := Option.some.inj e5; obtain rfl := Option.some.inj d5; (try rw [ti_0]) <;> (try rw [ti_m1]) <;> omega)⟩, by rw [ht]; exact hP, va_K.moved hW.alike hK, pl_in hD⟩, hS.F ht⟩) hS.2.2 dX12_takesRow_160
              refine lv_icmp_ne (tgt := 90) hx hb dX12_takesRow_83 (by decide) (fun c_175 => ?_) (fun c_175 => ?_)
              · skip
                rw [← Int32.toInt_inj, ti_48] at c_175
                refine lv_aload_n hx hb dX12_takesRow_90 rfl (lv_at hl 3 rfl) ?_
                refine tk_getP (D := (dC, dI)) (ci := 12) (v := .ref a_1) (C := RX12) (T := TX12) (N := 56) hx hb hU inlX12 hown hK hP mo0 hfo_88 rfl 0 (by decide) (hU _ wd_169) (fun _ h9 => h9) rfl dX12_takesRow_91 ?_
                refine lv_aload_n hx hb dX12_takesRow_94 rfl (lv_at hl 3 rfl) ?_
                refine tk_getP (D := (dC, dI)) (ci := 12) (v := .ref a_5) (C := RX12) (T := TX12) (N := 56) hx hb hU inlX12 hown hK hP mo0 hfo_88 rfl 4 (by decide) (hU _ wd_172) (fun _ h9 => h9) rfl dX12_takesRow_95 ?_
                refine lv_iconst (v := 2) hx hb dX12_takesRow_98 (by decide) ?_
                refine lv_iload_n hx hb dX12_takesRow_99 rfl (lv_at hl 1 rfl) ?_
                refine lv_imul hx hb dX12_takesRow_100 ?_
                refine lv_topi (fun x_176 ex_176 => ?_)
                have hx_176 : x_176.toInt = 2 * y_85.toInt := by rw [ex_176, ml_I (by rw [ti_2]; omega) (by rw [ti_2]; omega), ti_2]
                have bx_176 : (0 ≤ x_176.toInt ∧ x_176.toInt ≤ 30) := by constructor <;> omega
                refine lv_iconst (v := 1) hx hb dX12_takesRow_101 (by decide) ?_
                refine lv_iadd hx hb dX12_takesRow_102 ?_
                refine lv_topi (fun x_177 ex_177 => ?_)
                have hx_177 : x_177.toInt = x_176.toInt + 1 := by rw [ex_177, ad_I (by rw [ti_1]; omega) (by rw [ti_1]; omega), ti_1]
                have bx_177 : (1 ≤ x_177.toInt ∧ x_177.toInt ≤ 31) := by constructor <;> omega
                refine tk_ildP hx hb hK hP 0 ma_5 hfo_93 rfl (vp_in_iff.mpr (by constructor <;> omega)) dX12_takesRow_103 ?_
                refine lv_topi (fun x_178 ex_178 => ?_)
                have bx_178 : (0 ≤ x_178.toInt ∧ x_178.toInt ≤ 255) := by rw [ex_178]; exact hbg_94 _
                refine tk_SiP (As := [.ref a_1, .int x_178]) (rest := []) (n := 2) hx hb hml hown hU hN hZ (s_X12_letterIn_a575 l (dC, dI) cI cL cZ cR cG cH Z kd L f_87 hG a_1 ma_1 ka_1 x_178) wd_606 wd_607 wd_5 wd_608 (by decide +kernel) ⟨Nat.le_of_ble_eq_true rfl, Nat.le_of_ble_eq_true rfl⟩ hK hP hD hS rfl hl.1 rfl (Nat.le_of_ble_eq_true rfl) dX12_takesRow_104 ⟨Nat.le_of_ble_eq_true rfl, Nat.le_of_ble_eq_true rfl⟩ (fun x_179 f_180 H locs hw hP hD hS => ?_)
                obtain ⟨rfl, bx_179, hxp_181⟩ := hw
                obtain ⟨g_184, hfo_183, hbg_184⟩ := un_575 (hG _ ma_1) ka_1
                have hlix_179 := hxp_181 g_184 hfo_183
                exact hcut_104 x_179 (by constructor <;> omega) _ _ hP hS ls (lv_sub hl [0, 1, 2, 3] rfl)
              · skip
                rw [← Int32.toInt_inj, ti_48] at c_175
                refine lv_iconst (v := 0) hx hb dX12_takesRow_86 (by decide) ?_
                refine lv_goto (tgt := 107) hx hb dX12_takesRow_87 (by decide) ?_
                exact hcut_104 0 (by decide) _ _ hP hS ls (lv_sub hl [0, 1, 2, 3] rfl)
            refine lv_icmp_ne (tgt := 55) hx hb dX12_takesRow_48 (by decide) (fun c_185 => ?_) (fun c_185 => ?_)
            · skip
              rw [← Int32.toInt_inj, ti_48] at c_185
              refine lv_aload_n hx hb dX12_takesRow_55 rfl (lv_at hl 2 rfl) ?_
              refine tk_getP (D := (dC, dI)) (ci := 12) (v := .ref a_1) (C := RX12) (T := TX12) (N := 56) hx hb hU inlX12 hown hK hP mo0 hfo_88 rfl 0 (by decide) (hU _ wd_169) (fun _ h9 => h9) rfl dX12_takesRow_56 ?_
              refine lv_aload_n hx hb dX12_takesRow_59 rfl (lv_at hl 2 rfl) ?_
              refine tk_getP (D := (dC, dI)) (ci := 12) (v := .ref a_5) (C := RX12) (T := TX12) (N := 56) hx hb hU inlX12 hown hK hP mo0 hfo_88 rfl 4 (by decide) (hU _ wd_172) (fun _ h9 => h9) rfl dX12_takesRow_60 ?_
              refine lv_iconst (v := 2) hx hb dX12_takesRow_63 (by decide) ?_
              refine lv_iload_n hx hb dX12_takesRow_64 rfl (lv_at hl 0 rfl) ?_
              refine lv_imul hx hb dX12_takesRow_65 ?_
              refine lv_topi (fun x_186 ex_186 => ?_)
              have hx_186 : x_186.toInt = 2 * y_85.toInt := by rw [ex_186, ml_I (by rw [ti_2]; omega) (by rw [ti_2]; omega), ti_2]
              have bx_186 : (0 ≤ x_186.toInt ∧ x_186.toInt ≤ 30) := by constructor <;> omega
              refine tk_ildP hx hb hK hP 0 ma_5 hfo_93 rfl (vp_in_iff.mpr (by constructor <;> omega)) dX12_takesRow_66 ?_
              refine lv_topi (fun x_187 ex_187 => ?_)
              have bx_187 : (0 ≤ x_187.toInt ∧ x_187.toInt ≤ 255) := by rw [ex_187]; exact hbg_94 _
              refine tk_SiP (As := [.ref a_1, .int x_187]) (rest := []) (n := 2) hx hb hml hown hU hN hZ (s_X12_letterIn_a575 l (dC, dI) cI cL cZ cR cG cH Z kd L f_87 hG a_1 ma_1 ka_1 x_187) wd_606 wd_607 wd_5 wd_608 (by decide +kernel) ⟨Nat.le_of_ble_eq_true rfl, Nat.le_of_ble_eq_true rfl⟩ hK hP hD hS rfl hl.1 rfl (Nat.le_of_ble_eq_true rfl) dX12_takesRow_67 ⟨Nat.le_of_ble_eq_true rfl, Nat.le_of_ble_eq_true rfl⟩ (fun x_188 f_189 H locs hw hP hD hS => ?_)
              obtain ⟨rfl, bx_188, hxp_190⟩ := hw
              obtain ⟨g_193, hfo_192, hbg_193⟩ := un_575 (hG _ ma_1) ka_1
              have hlix_188 := hxp_190 g_193 hfo_192
              exact hcut_98 x_188 (by constructor <;> omega) _ _ hP hS ls (lv_sub hl [0, 1, 2] rfl)
            · skip
              rw [← Int32.toInt_inj, ti_48] at c_185
              refine lv_iconst (v := 0) hx hb dX12_takesRow_51 (by decide) ?_
              refine lv_goto (tgt := 70) hx hb dX12_takesRow_52 (by decide) ?_
              exact hcut_98 0 (by decide) _ _ hP hS ls (lv_sub hl [0, 1, 2] rfl)
      exact hloop_84 17 0 (by decide) f_61 hG _ _ hP hS hD hfr0 hrA12 hfA12 hfo_62 (by (try rw [ti_0]) <;> omega) ls hl
    · skip
      rw [← Int32.toInt_inj, ti_0] at c_68
      refine lv_iconst (v := (-1)) hx hb dX12_takesRow_27 (by decide) ?_
      exact W.iret (v := (-1)) hx hb hr (fun t ht hW => ⟨⟨(-1), f_61, rfl, ⟨hG, (by decide), hfr0, hrA12, hfA12, (by intro w5 z5 e5 d5; rw [hfo_57] at e5; rw [hfo_62] at d5; obtain rfl := Option.some.inj e5; obtain rfl := Option.some.inj d5; (try rw [ti_0]) <;> (try rw [ti_m1]) <;> omega)⟩, by rw [ht]; exact hP, va_K.moved hW.alike hK, pl_in hD⟩, hS.F ht⟩) hS.2.2 dX12_takesRow_28
