set_option maxHeartbeats 8000000 in
set_option maxRecDepth 100000 in
theorem s_X12_meant_k12 (l : Launch) (D : va_G) (cI cL cZ cR cG cH : ClassId) (Z : zT) (kd : Nat → Nat) (L : List Nat) (f : Nat → va_E) (hG : GI (okc cI cL cZ cR cG cH L kd) kd L f) (o0 : Nat) (mo0 : o0 ∈ L) (ko0 : kd o0 = 12) (p1 : Int32) (p2 : Int32) : mPI l D cI cL cZ cR cG cH Z yX12_meant cX12_meant 3 (some .int) 1 22 [.ref o0, .int p1, .int p2] L f (fun (r : Int32) (f9 : Nat → va_E) => f = f9 ∧ ((-2147483648) ≤ r.toInt ∧ r.toInt ≤ 2147483647)) := by
  obtain ⟨dC, dI⟩ := D
  refine Met.ofW (cc := cX12_meant) (maxL := 3) (ret := (some .int)) (by decide) rfl ?_
  intro p e s m args below meth c s₁ B hml hv
  obtain ⟨rfl, hP, hK, hD0, hN, hZ⟩ := hv
  have hx := B.exec
  have hb := B.bytes
  have hr := B.returns
  have hU : ∀ w ∈ wsU, w.before _ s = true := fun w h => atoms_spec (ws := wU yX12_meant cX12_meant 3 (some .int)) B.pre w (List.mem_cons_of_mem _ h)
  have hown : s.vm.findClass RX12 = some m.cls := findClass_of_methodNamed B.named
  have hlocks := B.notSynchronized
  have hD := pl_in hD0
  have hS : va_S (fun q => q ∈ L) s.heap s.heap [] := va_S.rf
  have hl := lv_entry ([.ref o0, .int p1, .int p2]) (n := 3) (Nat.le_of_ble_eq_true rfl)
  rw [lg_entry_eq]
  generalize (lg_sl ([.ref o0, .int p1, .int p2]) ++ List.replicate (3 - (lg_sl ([.ref o0, .int p1, .int p2])).length) Slot.unset).toArray = ls at hl ⊢
  have hl : lv_has ls 3 [(0, .ref o0), (1, .int p1), (2, .int p2)] := hl
  have bp1 : ((-2147483648) ≤ p1.toInt ∧ p1.toInt ≤ 2147483647) := ⟨i32_lo _, i32_hi _⟩
  have bp2 : ((-2147483648) ≤ p2.toInt ∧ p2.toInt ≤ 2147483647) := ⟨i32_lo _, i32_hi _⟩
  refine lv_iload_n hx hb dX12_meant_0 rfl (lv_at hl 1 rfl) ?_
  refine lv_iconst (v := 0) hx hb dX12_meant_1 (by decide) ?_
  refine lv_aload_n hx hb dX12_meant_2 rfl (lv_at hl 0 rfl) ?_
  obtain ⟨a_2, a_3, a_4, v_5, a_6, v_7, v_8, v_9, v_10, v_11, v_12, v_13, v_14, v_15, v_16, a_17, a_18, a_19, a_20, a_21, a_22, a_23, a_24, v_25, v_26, v_27, v_28, v_29, a_30, v_31, a_32, a_33, v_34, v_35, a_36, v_37, a_38, a_39, v_40, v_41, a_42, a_43, a_44, v_45, a_46, a_47, a_48, a_49, a_50, a_51, a_52, a_53, a_54, v_55, v_56, a_57, hfo_1, ⟨ma_2, ka_2⟩, ⟨ma_3, ka_3⟩, ⟨ma_4, ka_4⟩, bv_5, ⟨ma_6, ka_6⟩, bv_7, bv_8, bv_13, bv_14, bv_15, ⟨ma_17, ka_17⟩, ⟨ma_18, ka_18⟩, ⟨ma_19, ka_19⟩, ⟨ma_20, ka_20⟩, ⟨ma_21, ka_21⟩, ⟨ma_22, ka_22⟩, ⟨ma_23, ka_23⟩, ⟨ma_24, ka_24⟩, bv_25, bv_27, bv_29, ⟨ma_30, ka_30⟩, bv_31, ⟨ma_32, ka_32⟩, ⟨ma_33, ka_33⟩, bv_34, ⟨ma_36, ka_36⟩, bv_37, ⟨ma_38, ka_38⟩, ⟨ma_39, ka_39⟩, bv_40, ⟨ma_42, ka_42⟩, ⟨ma_43, ka_43⟩, ⟨ma_44, ka_44⟩, bv_45, ⟨ma_46, ka_46⟩, ⟨ma_47, ka_47⟩, ⟨ma_48, ka_48⟩, ⟨ma_49, ka_49⟩, ⟨ma_50, ka_50⟩, ⟨ma_51, ka_51⟩, ⟨ma_52, ka_52⟩, ⟨ma_53, ka_53⟩, ⟨ma_54, ka_54⟩, bv_55, ⟨ma_57, ka_57⟩⟩ := un_12 (hG _ mo0) ko0
  have bv_9 : ((-2147483648) ≤ v_9.toInt ∧ v_9.toInt ≤ 2147483647) := ⟨i32_lo _, i32_hi _⟩
  have bv_10 : ((-2147483648) ≤ v_10.toInt ∧ v_10.toInt ≤ 2147483647) := ⟨i32_lo _, i32_hi _⟩
  have bv_11 : ((-2147483648) ≤ v_11.toInt ∧ v_11.toInt ≤ 2147483647) := ⟨i32_lo _, i32_hi _⟩
  have bv_12 : ((-2147483648) ≤ v_12.toInt ∧ v_12.toInt ≤ 2147483647) := ⟨i32_lo _, i32_hi _⟩
  have bv_16 : ((-2147483648) ≤ v_16.toInt ∧ v_16.toInt ≤ 2147483647) := ⟨i32_lo _, i32_hi _⟩
  have bv_26 : ((-2147483648) ≤ v_26.toInt ∧ v_26.toInt ≤ 2147483647) := ⟨i32_lo _, i32_hi _⟩
  have bv_28 : ((-2147483648) ≤ v_28.toInt ∧ v_28.toInt ≤ 2147483647) := ⟨i32_lo _, i32_hi _⟩
  have bv_35 : ((-2147483648) ≤ v_35.toInt ∧ v_35.toInt ≤ 2147483647) := ⟨i32_lo _, i32_hi _⟩
  have bv_41 : ((-2147483648) ≤ v_41.toInt ∧ v_41.toInt ≤ 2147483647) := ⟨i32_lo _, i32_hi _⟩
  have bv_56 : ((-2147483648) ≤ v_56.toInt ∧ v_56.toInt ≤ 2147483647) := ⟨i32_lo _, i32_hi _⟩
  refine tk_getP (D := (dC, dI)) (ci := 12) (v := .int v_40) (C := RX12) (T := TX12) (N := 56) hx hb hU inlX12 hown hK hP mo0 hfo_1 rfl 38 (by decide) (hU _ wd_571) (fun _ h9 => h9) rfl dX12_meant_3 ?_
  refine lv_iconst (v := 1) hx hb dX12_meant_6 (by decide) ?_
  refine lv_isub hx hb dX12_meant_7 ?_
  refine lv_topi (fun x_58 ex_58 => ?_)
  have hx_58 : x_58.toInt = v_40.toInt - 1 := by rw [ex_58, sb_I (by rw [ti_1]; omega) (by rw [ti_1]; omega), ti_1]
  have bx_58 : ((-1) ≤ x_58.toInt ∧ x_58.toInt ≤ 95) := by constructor <;> omega
  refine tk_SiP (As := [.int p1, .int 0, .int x_58]) (rest := []) (n := 3) hx hb hml hown hU hN hZ (s_X12_isIn l (dC, dI) cI cL cZ cR cG cH Z kd L f hG p1 0 x_58) wd_227 wd_228 wd_5 wd_229 (by decide +kernel) ⟨Nat.le_of_ble_eq_true rfl, Nat.le_of_ble_eq_true rfl⟩ hK hP hD hS rfl hl.1 rfl (Nat.le_of_ble_eq_true rfl) dX12_meant_8 ⟨Nat.le_of_ble_eq_true rfl, Nat.le_of_ble_eq_true rfl⟩ (fun x_59 f_60 H locs hw hP hD hS => ?_)
  obtain ⟨rfl, bx_59, relx_59⟩ := hw
  try rw [ti_0] at relx_59
  refine lv_if_ne (tgt := 18) hx hb dX12_meant_11 (by decide) (fun c_62 => ?_) (fun c_62 => ?_)
  · skip
    rw [← Int32.toInt_inj, ti_0] at c_62
    refine lv_iload_n hx hb dX12_meant_18 rfl (lv_at hl 2 rfl) ?_
    refine lv_if_ne (tgt := 31) hx hb dX12_meant_19 (by decide) (fun c_63 => ?_) (fun c_63 => ?_)
    · skip
      rw [← Int32.toInt_inj, ti_0] at c_63
      refine lv_iload_n hx hb dX12_meant_31 rfl (lv_at hl 2 rfl) ?_
      refine lv_iconst (v := 1) hx hb dX12_meant_32 (by decide) ?_
      refine lv_icmp_ne (tgt := 45) hx hb dX12_meant_33 (by decide) (fun c_64 => ?_) (fun c_64 => ?_)
      · skip
        rw [← Int32.toInt_inj, ti_1] at c_64
        refine lv_iconst (v := (-1)) hx hb dX12_meant_45 (by decide) ?_
        exact W.iret (v := (-1)) hx hb hr (fun t ht hW => ⟨⟨(-1), f, rfl, ⟨rfl, (by decide)⟩, by rw [ht]; exact hP, va_K.moved hW.alike hK, pl_in hD⟩, hS.F ht⟩) hS.2.2 dX12_meant_46
      · skip
        rw [← Int32.toInt_inj, ti_1] at c_64
        refine lv_aload_n hx hb dX12_meant_36 rfl (lv_at hl 0 rfl) ?_
        refine tk_getP (D := (dC, dI)) (ci := 12) (v := .ref a_39) (C := RX12) (T := TX12) (N := 56) hx hb hU inlX12 hown hK hP mo0 hfo_1 rfl 37 (by decide) (hU _ wd_188) (fun _ h9 => h9) rfl dX12_meant_37 ?_
        refine lv_iload_n hx hb dX12_meant_40 rfl (lv_at hl 1 rfl) ?_
        obtain ⟨g_66, hfo_65, hbg_66⟩ := un_596 (hG _ ma_39) ka_39
        refine tk_ildP hx hb hK hP 0 ma_39 hfo_65 rfl (vp_in_iff.mpr (by constructor <;> omega)) dX12_meant_41 ?_
        refine lv_topi (fun x_67 ex_67 => ?_)
        have bx_67 : ((-2147483648) ≤ x_67.toInt ∧ x_67.toInt ≤ 2147483647) := ⟨i32_lo _, i32_hi _⟩
        refine lv_goto (tgt := 46) hx hb dX12_meant_42 (by decide) ?_
        exact W.iret (v := x_67) hx hb hr (fun t ht hW => ⟨⟨x_67, f, rfl, ⟨rfl, (by constructor <;> omega)⟩, by rw [ht]; exact hP, va_K.moved hW.alike hK, pl_in hD⟩, hS.F ht⟩) hS.2.2 dX12_meant_46
    · skip
      rw [← Int32.toInt_inj, ti_0] at c_63
      refine lv_aload_n hx hb dX12_meant_22 rfl (lv_at hl 0 rfl) ?_
      refine tk_getP (D := (dC, dI)) (ci := 12) (v := .ref a_38) (C := RX12) (T := TX12) (N := 56) hx hb hU inlX12 hown hK hP mo0 hfo_1 rfl 36 (by decide) (hU _ wd_187) (fun _ h9 => h9) rfl dX12_meant_23 ?_
      refine lv_iload_n hx hb dX12_meant_26 rfl (lv_at hl 1 rfl) ?_
      obtain ⟨g_69, hfo_68, hbg_69⟩ := un_595 (hG _ ma_38) ka_38
      refine tk_ildP hx hb hK hP 0 ma_38 hfo_68 rfl (vp_in_iff.mpr (by constructor <;> omega)) dX12_meant_27 ?_
      refine lv_topi (fun x_70 ex_70 => ?_)
      have bx_70 : ((-2147483648) ≤ x_70.toInt ∧ x_70.toInt ≤ 2147483647) := ⟨i32_lo _, i32_hi _⟩
      refine lv_goto (tgt := 46) hx hb dX12_meant_28 (by decide) ?_
      exact W.iret (v := x_70) hx hb hr (fun t ht hW => ⟨⟨x_70, f, rfl, ⟨rfl, (by constructor <;> omega)⟩, by rw [ht]; exact hP, va_K.moved hW.alike hK, pl_in hD⟩, hS.F ht⟩) hS.2.2 dX12_meant_46
  · skip
    rw [← Int32.toInt_inj, ti_0] at c_62
    refine lv_iconst (v := (-1)) hx hb dX12_meant_14 (by decide) ?_
    refine lv_goto (tgt := 46) hx hb dX12_meant_15 (by decide) ?_
    exact W.iret (v := (-1)) hx hb hr (fun t ht hW => ⟨⟨(-1), f, rfl, ⟨rfl, (by decide)⟩, by rw [ht]; exact hP, va_K.moved hW.alike hK, pl_in hD⟩, hS.F ht⟩) hS.2.2 dX12_meant_46
set_option maxHeartbeats 8000000 in
set_option maxRecDepth 100000 in
theorem s_X12_takesRow_k12 (l : Launch) (D : va_G) (cI cL cZ cR cG cH : ClassId) (Z : zT) (kd : Nat → Nat) (L : List Nat) (f : Nat → va_E) (hG : GI (okc cI cL cZ cR cG cH L kd) kd L f) (o0 : Nat) (mo0 : o0 ∈ L) (ko0 : kd o0 = 12) : mPI l D cI cL cZ cR cG cH Z yX12_takesRow cX12_takesRow 5 (some .int) 1 23 [.ref o0] L f (fun (r : Int32) (f9 : Nat → va_E) => GI (okc cI cL cZ cR cG cH L kd) kd L f9 ∧ ((-1) ≤ r.toInt ∧ r.toInt ≤ 16) ∧ (∀ b, kd b ≠ 12 → kd b ≠ 588 → f9 b = f b) ∧ (∀ b, kd b = 12 → ∀ j, fldR (f9 b) j = fldR (f b) j) ∧ (∀ b, kd b = 12 → ∀ j, j ≠ 5 → fldI (f9 b) j = fldI (f b) j) ∧ (∀ (w5 z5 : Int32), fldI (f o0) 5 = some w5 → fldI (f9 o0) 5 = some z5 → z5.toInt = 0)) := by
  obtain ⟨dC, dI⟩ := D
  refine Met.ofW (cc := cX12_takesRow) (maxL := 5) (ret := (some .int)) (by decide) rfl ?_
  intro p e s m args below meth c s₁ B hml hv
  obtain ⟨rfl, hP, hK, hD0, hN, hZ⟩ := hv
  have hx := B.exec
  have hb := B.bytes
  have hr := B.returns
  have hU : ∀ w ∈ wsU, w.before _ s = true := fun w h => atoms_spec (ws := wU yX12_takesRow cX12_takesRow 5 (some .int)) B.pre w (List.mem_cons_of_mem _ h)
  have hown : s.vm.findClass RX12 = some m.cls := findClass_of_methodNamed B.named
  have hlocks := B.notSynchronized
  have hD := pl_in hD0
  have hS : va_S (fun q => q ∈ L) s.heap s.heap [] := va_S.rf
  have hl := lv_entry ([.ref o0]) (n := 5) (Nat.le_of_ble_eq_true rfl)
  rw [lg_entry_eq]
  generalize (lg_sl ([.ref o0]) ++ List.replicate (5 - (lg_sl ([.ref o0])).length) Slot.unset).toArray = ls at hl ⊢
  have hl : lv_has ls 5 [(0, .ref o0)] := hl
  have hfr0 : ∀ b, kd b ≠ 12 → kd b ≠ 588 → f b = f b := fun _ _ _ => rfl
  have hrA12 : ∀ b, kd b = 12 → ∀ j, fldR (f b) j = fldR (f b) j := fun _ _ _ => rfl
  have hfA12 : ∀ b, kd b = 12 → ∀ j, j ≠ 5 → fldI (f b) j = fldI (f b) j := fun _ _ _ _ => rfl
  obtain ⟨a_2, a_3, a_4, v_5, a_6, v_7, v_8, v_9, v_10, v_11, v_12, v_13, v_14, v_15, v_16, a_17, a_18, a_19, a_20, a_21, a_22, a_23, a_24, v_25, v_26, v_27, v_28, v_29, a_30, v_31, a_32, a_33, v_34, v_35, a_36, v_37, a_38, a_39, v_40, v_41, a_42, a_43, a_44, v_45, a_46, a_47, a_48, a_49, a_50, a_51, a_52, a_53, a_54, v_55, v_56, a_57, hfo_1, ⟨ma_2, ka_2⟩, ⟨ma_3, ka_3⟩, ⟨ma_4, ka_4⟩, bv_5, ⟨ma_6, ka_6⟩, bv_7, bv_8, bv_13, bv_14, bv_15, ⟨ma_17, ka_17⟩, ⟨ma_18, ka_18⟩, ⟨ma_19, ka_19⟩, ⟨ma_20, ka_20⟩, ⟨ma_21, ka_21⟩, ⟨ma_22, ka_22⟩, ⟨ma_23, ka_23⟩, ⟨ma_24, ka_24⟩, bv_25, bv_27, bv_29, ⟨ma_30, ka_30⟩, bv_31, ⟨ma_32, ka_32⟩, ⟨ma_33, ka_33⟩, bv_34, ⟨ma_36, ka_36⟩, bv_37, ⟨ma_38, ka_38⟩, ⟨ma_39, ka_39⟩, bv_40, ⟨ma_42, ka_42⟩, ⟨ma_43, ka_43⟩, ⟨ma_44, ka_44⟩, bv_45, ⟨ma_46, ka_46⟩, ⟨ma_47, ka_47⟩, ⟨ma_48, ka_48⟩, ⟨ma_49, ka_49⟩, ⟨ma_50, ka_50⟩, ⟨ma_51, ka_51⟩, ⟨ma_52, ka_52⟩, ⟨ma_53, ka_53⟩, ⟨ma_54, ka_54⟩, bv_55, ⟨ma_57, ka_57⟩⟩ := un_12 (hG _ mo0) ko0
  have bv_9 : ((-2147483648) ≤ v_9.toInt ∧ v_9.toInt ≤ 2147483647) := ⟨i32_lo _, i32_hi _⟩
  have bv_10 : ((-2147483648) ≤ v_10.toInt ∧ v_10.toInt ≤ 2147483647) := ⟨i32_lo _, i32_hi _⟩
  have bv_11 : ((-2147483648) ≤ v_11.toInt ∧ v_11.toInt ≤ 2147483647) := ⟨i32_lo _, i32_hi _⟩
  have bv_12 : ((-2147483648) ≤ v_12.toInt ∧ v_12.toInt ≤ 2147483647) := ⟨i32_lo _, i32_hi _⟩
  have bv_16 : ((-2147483648) ≤ v_16.toInt ∧ v_16.toInt ≤ 2147483647) := ⟨i32_lo _, i32_hi _⟩
  have bv_26 : ((-2147483648) ≤ v_26.toInt ∧ v_26.toInt ≤ 2147483647) := ⟨i32_lo _, i32_hi _⟩
  have bv_28 : ((-2147483648) ≤ v_28.toInt ∧ v_28.toInt ≤ 2147483647) := ⟨i32_lo _, i32_hi _⟩
  have bv_35 : ((-2147483648) ≤ v_35.toInt ∧ v_35.toInt ≤ 2147483647) := ⟨i32_lo _, i32_hi _⟩
  have bv_41 : ((-2147483648) ≤ v_41.toInt ∧ v_41.toInt ≤ 2147483647) := ⟨i32_lo _, i32_hi _⟩
  have bv_56 : ((-2147483648) ≤ v_56.toInt ∧ v_56.toInt ≤ 2147483647) := ⟨i32_lo _, i32_hi _⟩
  refine lv_aload_n hx hb dX12_takesRow_0 rfl (lv_at hl 0 rfl) ?_
  refine tk_getP (D := (dC, dI)) (ci := 12) (v := .int v_7) (C := RX12) (T := TX12) (N := 56) hx hb hU inlX12 hown hK hP mo0 hfo_1 rfl 5 (by decide) (hU _ wd_218) (fun _ h9 => h9) rfl dX12_takesRow_1 ?_
  refine lv_istore_n (lv' := [(1, .int v_7), (0, .ref o0)]) hx hb dX12_takesRow_4 rfl hl (by decide) rfl (fun ls hl => ?_)
  refine lv_aload_n hx hb dX12_takesRow_5 rfl (lv_at hl 1 rfl) ?_
  refine lv_iconst (v := 0) hx hb dX12_takesRow_6 (by decide) ?_
  refine tk_putP (D := (dC, dI)) (ci := 12) (v := .int 0) (ty := .int) (C := RX12) (T := TX12) (N := 56) hx hb hU inlX12 tyX12 tyX12_ok nmX12 hown hK hP hD hS mo0 hfo_1 rfl 5 (by decide) (hU _ wd_218) (fun _ h9 => h9) rfl (by decide +kernel) rfl rfl (Nat.le_of_ble_eq_true rfl) dX12_takesRow_7 (fun H locs hP hD hS => ?_)
  obtain ⟨f_59, ef_59⟩ : ∃ y : Nat → va_E, y = va_up f o0 (.inr (12, [.ref a_2, .ref a_3, .ref a_4, .int v_5, .ref a_6, .int 0, .int v_8, .int v_9, .int v_10, .int v_11, .int v_12, .int v_13, .int v_14, .int v_15, .int v_16, .ref a_17, .ref a_18, .ref a_19, .ref a_20, .ref a_21, .ref a_22, .ref a_23, .ref a_24, .int v_25, .int v_26, .int v_27, .int v_28, .int v_29, .ref a_30, .int v_31, .ref a_32, .ref a_33, .int v_34, .int v_35, .ref a_36, .int v_37, .ref a_38, .ref a_39, .int v_40, .int v_41, .ref a_42, .ref a_43, .ref a_44, .int v_45, .ref a_46, .ref a_47, .ref a_48, .ref a_49, .ref a_50, .ref a_51, .ref a_52, .ref a_53, .ref a_54, .int v_55, .int v_56, .ref a_57])) := ⟨_, rfl⟩
  have hP : va_P (dC, dI) vwCl (va_pl L f_59) H := by rw [ef_59]; exact hP
  have hD : va_D (fun q => q ∈ L) (va_pl L f_59) := by rw [ef_59]; exact hD
  have hG : GI (okc cI cL cZ cR cG cH L kd) kd L f_59 := by rw [ef_59]; exact hG.set o0 (mk_12 ko0 ⟨a_2, a_3, a_4, v_5, a_6, 0, v_8, v_9, v_10, v_11, v_12, v_13, v_14, v_15, v_16, a_17, a_18, a_19, a_20, a_21, a_22, a_23, a_24, v_25, v_26, v_27, v_28, v_29, a_30, v_31, a_32, a_33, v_34, v_35, a_36, v_37, a_38, a_39, v_40, v_41, a_42, a_43, a_44, v_45, a_46, a_47, a_48, a_49, a_50, a_51, a_52, a_53, a_54, v_55, v_56, a_57, rfl, ⟨ma_2, ka_2⟩, ⟨ma_3, ka_3⟩, ⟨ma_4, ka_4⟩, (by constructor <;> omega), ⟨ma_6, ka_6⟩, (by decide), (by constructor <;> omega), (by constructor <;> omega), (by constructor <;> omega), (by constructor <;> omega), ⟨ma_17, ka_17⟩, ⟨ma_18, ka_18⟩, ⟨ma_19, ka_19⟩, ⟨ma_20, ka_20⟩, ⟨ma_21, ka_21⟩, ⟨ma_22, ka_22⟩, ⟨ma_23, ka_23⟩, ⟨ma_24, ka_24⟩, (by constructor <;> omega), (by constructor <;> omega), (by constructor <;> omega), ⟨ma_30, ka_30⟩, (by constructor <;> omega), ⟨ma_32, ka_32⟩, ⟨ma_33, ka_33⟩, (by constructor <;> omega), ⟨ma_36, ka_36⟩, (by constructor <;> omega), ⟨ma_38, ka_38⟩, ⟨ma_39, ka_39⟩, (by constructor <;> omega), ⟨ma_42, ka_42⟩, ⟨ma_43, ka_43⟩, ⟨ma_44, ka_44⟩, (by constructor <;> omega), ⟨ma_46, ka_46⟩, ⟨ma_47, ka_47⟩, ⟨ma_48, ka_48⟩, ⟨ma_49, ka_49⟩, ⟨ma_50, ka_50⟩, ⟨ma_51, ka_51⟩, ⟨ma_52, ka_52⟩, ⟨ma_53, ka_53⟩, ⟨ma_54, ka_54⟩, (by constructor <;> omega), ⟨ma_57, ka_57⟩⟩)
  have hfr0 : ∀ b, kd b ≠ 12 → kd b ≠ 588 → f_59 b = f b := fun b q12 q588 => (congrFun ef_59 b).trans ((up_ne (fun e9 => q12 (by rw [e9]; exact ko0))).trans (hfr0 b q12 q588))
  have hrA12 : ∀ b, kd b = 12 → ∀ j, fldR (f_59 b) j = fldR (f b) j := fun b kb j => ((congrArg (fun x => fldR x j) (congrFun ef_59 b)).trans (fra_up (fun j => by rw [hfo_1]; exact fr_set (k := 5) rfl rfl j) j b)).trans (hrA12 b kb j)
  have hfA12 : ∀ b, kd b = 12 → ∀ j, j ≠ 5 → fldI (f_59 b) j = fldI (f b) j := fun b kb j n5 => ((congrArg (fun x => fldI x j) (congrFun ef_59 b)).trans (fia_up (fun h9 => by rw [hfo_1]; exact fi_set (k := 5) rfl h9) n5 b)).trans (hfA12 b kb j n5)
  have hfo_60 : f_59 o0 = .inr (12, [.ref a_2, .ref a_3, .ref a_4, .int v_5, .ref a_6, .int 0, .int v_8, .int v_9, .int v_10, .int v_11, .int v_12, .int v_13, .int v_14, .int v_15, .int v_16, .ref a_17, .ref a_18, .ref a_19, .ref a_20, .ref a_21, .ref a_22, .ref a_23, .ref a_24, .int v_25, .int v_26, .int v_27, .int v_28, .int v_29, .ref a_30, .int v_31, .ref a_32, .ref a_33, .int v_34, .int v_35, .ref a_36, .int v_37, .ref a_38, .ref a_39, .int v_40, .int v_41, .ref a_42, .ref a_43, .ref a_44, .int v_45, .ref a_46, .ref a_47, .ref a_48, .ref a_49, .ref a_50, .ref a_51, .ref a_52, .ref a_53, .ref a_54, .int v_55, .int v_56, .ref a_57]) := by rw [ef_59]; exact up_self
  refine lv_iload_n hx hb dX12_takesRow_10 rfl (lv_at hl 0 rfl) ?_
  refine lv_iconst (v := 2) hx hb dX12_takesRow_11 (by decide) ?_
  refine lv_irem hx hb dX12_takesRow_12 (by decide) ?_
  refine lv_topi (fun x_61 ex_61 => ?_)
  have hx_61 : x_61.toInt = v_7.toInt % 2 := by rw [ex_61, rm_I (by omega) (by rw [ti_2]; omega), ti_2]
  have bx_61 : (0 ≤ x_61.toInt ∧ x_61.toInt ≤ 1) := by constructor <;> omega
  refine lv_iconst (v := 1) hx hb dX12_takesRow_13 (by decide) ?_
  refine lv_icmp_eq (tgt := 27) hx hb dX12_takesRow_14 (by decide) (fun c_62 => ?_) (fun c_62 => ?_)
  · skip
    rw [← Int32.toInt_inj, ti_1] at c_62
    refine lv_iconst (v := (-1)) hx hb dX12_takesRow_27 (by decide) ?_
    exact W.iret (v := (-1)) hx hb hr (fun t ht hW => ⟨⟨(-1), f_59, rfl, ⟨hG, (by decide), hfr0, hrA12, hfA12, (by intro w5 z5 e5 d5; rw [hfo_1] at e5; rw [hfo_60] at d5; obtain rfl := Option.some.inj e5; obtain rfl := Option.some.inj d5; (try rw [ti_0]) <;> (try rw [ti_m1]) <;> omega)⟩, by rw [ht]; exact hP, va_K.moved hW.alike hK, pl_in hD⟩, hS.F ht⟩) hS.2.2 dX12_takesRow_28
  · skip
    rw [← Int32.toInt_inj, ti_1] at c_62
    refine lv_iload_n hx hb dX12_takesRow_17 rfl (lv_at hl 0 rfl) ?_
    refine lv_iconst (v := 2) hx hb dX12_takesRow_18 (by decide) ?_
    refine lv_bipush (v := 32) hx hb dX12_takesRow_19 (by decide) ?_
    refine tk_SiP (As := [.int v_7, .int 2, .int 32]) (rest := []) (n := 3) hx hb hml hown hU hN hZ (s_X12_isIn l (dC, dI) cI cL cZ cR cG cH Z kd L f_59 hG v_7 2 32) wd_227 wd_228 wd_5 wd_229 (by decide +kernel) ⟨Nat.le_of_ble_eq_true rfl, Nat.le_of_ble_eq_true rfl⟩ hK hP hD hS rfl hl.1 rfl (Nat.le_of_ble_eq_true rfl) dX12_takesRow_21 ⟨Nat.le_of_ble_eq_true rfl, Nat.le_of_ble_eq_true rfl⟩ (fun x_63 f_64 H locs hw hP hD hS => ?_)
    obtain ⟨rfl, bx_63, relx_63⟩ := hw
    try rw [ti_2] at relx_63
    try rw [ti_32] at relx_63
    refine lv_if_ne (tgt := 29) hx hb dX12_takesRow_24 (by decide) (fun c_66 => ?_) (fun c_66 => ?_)
    · skip
      rw [← Int32.toInt_inj, ti_0] at c_66
      refine lv_iconst (v := 0) hx hb dX12_takesRow_29 (by decide) ?_
      refine lv_istore_n (lv' := [(2, .int 0), (1, .int v_7), (0, .ref o0)]) hx hb dX12_takesRow_30 rfl hl (by decide) rfl (fun ls hl => ?_)
      have hloop_82 : ∀ (n : Nat), ∀ (y_83 : Int32), (0 ≤ y_83.toInt ∧ y_83.toInt ≤ 16) → ∀ (f_85 : Nat → va_E), GI (okc cI cL cZ cR cG cH L kd) kd L f_85 → ∀ (H : Heap) (locs : List Loc), va_P (dC, dI) vwCl (va_pl L f_85) H → va_S (fun q => q ∈ L) s.heap H locs → va_D (fun q => q ∈ L) (va_pl L f_85) → (∀ b, kd b ≠ 12 → kd b ≠ 588 → f_85 b = f b) → (∀ b, kd b = 12 → ∀ j, fldR (f_85 b) j = fldR (f b) j) → (∀ b, kd b = 12 → ∀ j, j ≠ 5 → fldI (f_85 b) j = fldI (f b) j) → (f_85 o0 = .inr (12, [.ref a_2, .ref a_3, .ref a_4, .int v_5, .ref a_6, .int 0, .int v_8, .int v_9, .int v_10, .int v_11, .int v_12, .int v_13, .int v_14, .int v_15, .int v_16, .ref a_17, .ref a_18, .ref a_19, .ref a_20, .ref a_21, .ref a_22, .ref a_23, .ref a_24, .int v_25, .int v_26, .int v_27, .int v_28, .int v_29, .ref a_30, .int v_31, .ref a_32, .ref a_33, .int v_34, .int v_35, .ref a_36, .int v_37, .ref a_38, .ref a_39, .int v_40, .int v_41, .ref a_42, .ref a_43, .ref a_44, .int v_45, .ref a_46, .ref a_47, .ref a_48, .ref a_49, .ref a_50, .ref a_51, .ref a_52, .ref a_53, .ref a_54, .int v_55, .int v_56, .ref a_57])) → 16 - y_83.toInt < (n : Int) → ∀ (ls : Array Slot), lv_has ls 5 [(2, .int y_83), (1, .int v_7), (0, .ref o0)] → W p l e (headSpec (wU yX12_takesRow cX12_takesRow 5 (some .int)) { frames := 1, cells := 0, slots := 0, locals := 23 }).room s m [.ref o0].toArray below meth c H locs 0 0 (MQ below (va_Qi (fun (r : Int32) (f9 : Nat → va_E) => GI (okc cI cL cZ cR cG cH L kd) kd L f9 ∧ ((-1) ≤ r.toInt ∧ r.toInt ≤ 16) ∧ (∀ b, kd b ≠ 12 → kd b ≠ 588 → f9 b = f b) ∧ (∀ b, kd b = 12 → ∀ j, fldR (f9 b) j = fldR (f b) j) ∧ (∀ b, kd b = 12 → ∀ j, j ≠ 5 → fldI (f9 b) j = fldI (f b) j) ∧ (∀ (w5 z5 : Int32), fldI (f o0) 5 = some w5 → fldI (f9 o0) 5 = some z5 → z5.toInt = 0)) (qP (dC, dI) cI cL cZ cR cG cH L) (fun q => q ∈ L)) [.ref o0].toArray s 0 0 (fun q => q ∈ L)) (F0 m 31 ls []) := by
        intro n
        induction n with
        | zero => intro y_83 by_83 f_85 hG H locs hP hS hD hfr0 hrA12 hfA12 hfo_86 hmuhloop_82 ls hl; exfalso; omega
        | succ n ih_hloop_82 =>
          intro y_83 by_83 f_85 hG H locs hP hS hD hfr0 hrA12 hfA12 hfo_86 hmuhloop_82 ls hl
          refine lv_iload_n hx hb dX12_takesRow_31 rfl (lv_at hl 0 rfl) ?_
          refine lv_iload_n hx hb dX12_takesRow_32 rfl (lv_at hl 1 rfl) ?_
          refine lv_iconst (v := 2) hx hb dX12_takesRow_33 (by decide) ?_
          refine lv_idiv hx hb dX12_takesRow_34 (by decide) ?_
          refine lv_topi (fun x_87 ex_87 => ?_)
          have hx_87 : x_87.toInt = v_7.toInt / 2 := by rw [ex_87, dv_I (by omega) (by rw [ti_2]; omega), ti_2]
          have bx_87 : (1 ≤ x_87.toInt ∧ x_87.toInt ≤ 16) := by constructor <;> omega
          refine lv_icmp_ge (tgt := 180) hx hb dX12_takesRow_35 (by decide) (fun c_88 => ?_) (fun c_88 => ?_)
          · skip
            rw [Int32.le_iff_toInt_le] at c_88
            refine lv_iload_n hx hb dX12_takesRow_180 rfl (lv_at hl 1 rfl) ?_
            refine lv_iconst (v := 2) hx hb dX12_takesRow_181 (by decide) ?_
            refine lv_idiv hx hb dX12_takesRow_182 (by decide) ?_
            refine lv_topi (fun x_89 ex_89 => ?_)
            have hx_89 : x_89.toInt = v_7.toInt / 2 := by rw [ex_89, dv_I (by omega) (by rw [ti_2]; omega), ti_2]
            have bx_89 : (1 ≤ x_89.toInt ∧ x_89.toInt ≤ 16) := by constructor <;> omega
            exact W.iret (v := x_89) hx hb hr (fun t ht hW => ⟨⟨x_89, f_85, rfl, ⟨hG, (by constructor <;> omega), hfr0, hrA12, hfA12, (by intro w5 z5 e5 d5; rw [hfo_1] at e5; rw [hfo_86] at d5; obtain rfl := Option.some.inj e5; obtain rfl := Option.some.inj d5; (try rw [ti_0]) <;> omega)⟩, by rw [ht]; exact hP, va_K.moved hW.alike hK, pl_in hD⟩, hS.F ht⟩) hS.2.2 dX12_takesRow_183
          · skip
            rw [Int32.le_iff_toInt_le] at c_88
            refine lv_aload_n hx hb dX12_takesRow_38 rfl (lv_at hl 2 rfl) ?_
            refine tk_getP (D := (dC, dI)) (ci := 12) (v := .ref a_6) (C := RX12) (T := TX12) (N := 56) hx hb hU inlX12 hown hK hP mo0 hfo_86 rfl 4 (by decide) (hU _ wd_172) (fun _ h9 => h9) rfl dX12_takesRow_39 ?_
            refine lv_iconst (v := 2) hx hb dX12_takesRow_42 (by decide) ?_
            refine lv_iload_n hx hb dX12_takesRow_43 rfl (lv_at hl 0 rfl) ?_
            refine lv_imul hx hb dX12_takesRow_44 ?_
            refine lv_topi (fun x_90 ex_90 => ?_)
            have hx_90 : x_90.toInt = 2 * y_83.toInt := by rw [ex_90, ml_I (by rw [ti_2]; omega) (by rw [ti_2]; omega), ti_2]
            have bx_90 : (0 ≤ x_90.toInt ∧ x_90.toInt ≤ 30) := by constructor <;> omega
            obtain ⟨g_92, hfo_91, hbg_92⟩ := un_578 (hG _ ma_6) ka_6
            refine tk_ildP hx hb hK hP 0 ma_6 hfo_91 rfl (vp_in_iff.mpr (by constructor <;> omega)) dX12_takesRow_45 ?_
            refine lv_topi (fun x_93 ex_93 => ?_)
            have bx_93 : (0 ≤ x_93.toInt ∧ x_93.toInt ≤ 255) := by rw [ex_93]; exact hbg_92 _
            refine lv_bipush (v := 48) hx hb dX12_takesRow_46 (by decide) ?_
            have hcut_96 : ∀ (y_94 : Int32), (0 ≤ y_94.toInt ∧ y_94.toInt ≤ 8) → ∀ (H : Heap) (locs : List Loc), va_P (dC, dI) vwCl (va_pl L f_85) H → va_S (fun q => q ∈ L) s.heap H locs → ∀ (ls : Array Slot), lv_has ls 5 [(2, .int y_83), (1, .int v_7), (0, .ref o0)] → W p l e (headSpec (wU yX12_takesRow cX12_takesRow 5 (some .int)) { frames := 1, cells := 0, slots := 0, locals := 23 }).room s m [.ref o0].toArray below meth c H locs 0 0 (MQ below (va_Qi (fun (r : Int32) (f9 : Nat → va_E) => GI (okc cI cL cZ cR cG cH L kd) kd L f9 ∧ ((-1) ≤ r.toInt ∧ r.toInt ≤ 16) ∧ (∀ b, kd b ≠ 12 → kd b ≠ 588 → f9 b = f b) ∧ (∀ b, kd b = 12 → ∀ j, fldR (f9 b) j = fldR (f b) j) ∧ (∀ b, kd b = 12 → ∀ j, j ≠ 5 → fldI (f9 b) j = fldI (f b) j) ∧ (∀ (w5 z5 : Int32), fldI (f o0) 5 = some w5 → fldI (f9 o0) 5 = some z5 → z5.toInt = 0)) (qP (dC, dI) cI cL cZ cR cG cH L) (fun q => q ∈ L)) [.ref o0].toArray s 0 0 (fun q => q ∈ L)) (F0 m 70 ls [.int y_94]) := by
              intro y_94 by_94 H locs hP hS ls hl
              refine lv_istore_n (lv' := [(3, .int y_94), (2, .int y_83), (1, .int v_7), (0, .ref o0)]) hx hb dX12_takesRow_70 rfl hl (by decide) rfl (fun ls hl => ?_)
              refine lv_aload_n hx hb dX12_takesRow_71 rfl (lv_at hl 3 rfl) ?_
              refine tk_getP (D := (dC, dI)) (ci := 12) (v := .ref a_6) (C := RX12) (T := TX12) (N := 56) hx hb hU inlX12 hown hK hP mo0 hfo_86 rfl 4 (by decide) (hU _ wd_172) (fun _ h9 => h9) rfl dX12_takesRow_72 ?_
              refine lv_iconst (v := 2) hx hb dX12_takesRow_75 (by decide) ?_
              refine lv_iload_n hx hb dX12_takesRow_76 rfl (lv_at hl 1 rfl) ?_
              refine lv_imul hx hb dX12_takesRow_77 ?_
              refine lv_topi (fun x_97 ex_97 => ?_)
              have hx_97 : x_97.toInt = 2 * y_83.toInt := by rw [ex_97, ml_I (by rw [ti_2]; omega) (by rw [ti_2]; omega), ti_2]
              have bx_97 : (0 ≤ x_97.toInt ∧ x_97.toInt ≤ 30) := by constructor <;> omega
              refine lv_iconst (v := 1) hx hb dX12_takesRow_78 (by decide) ?_
              refine lv_iadd hx hb dX12_takesRow_79 ?_
              refine lv_topi (fun x_98 ex_98 => ?_)
              have hx_98 : x_98.toInt = x_97.toInt + 1 := by rw [ex_98, ad_I (by rw [ti_1]; omega) (by rw [ti_1]; omega), ti_1]
              have bx_98 : (1 ≤ x_98.toInt ∧ x_98.toInt ≤ 31) := by constructor <;> omega
              refine tk_ildP hx hb hK hP 0 ma_6 hfo_91 rfl (vp_in_iff.mpr (by constructor <;> omega)) dX12_takesRow_80 ?_
              refine lv_topi (fun x_99 ex_99 => ?_)
              have bx_99 : (0 ≤ x_99.toInt ∧ x_99.toInt ≤ 255) := by rw [ex_99]; exact hbg_92 _
              refine lv_bipush (v := 48) hx hb dX12_takesRow_81 (by decide) ?_
              have hcut_102 : ∀ (y_100 : Int32), (0 ≤ y_100.toInt ∧ y_100.toInt ≤ 8) → ∀ (H : Heap) (locs : List Loc), va_P (dC, dI) vwCl (va_pl L f_85) H → va_S (fun q => q ∈ L) s.heap H locs → ∀ (ls : Array Slot), lv_has ls 5 [(3, .int y_94), (2, .int y_83), (1, .int v_7), (0, .ref o0)] → W p l e (headSpec (wU yX12_takesRow cX12_takesRow 5 (some .int)) { frames := 1, cells := 0, slots := 0, locals := 23 }).room s m [.ref o0].toArray below meth c H locs 0 0 (MQ below (va_Qi (fun (r : Int32) (f9 : Nat → va_E) => GI (okc cI cL cZ cR cG cH L kd) kd L f9 ∧ ((-1) ≤ r.toInt ∧ r.toInt ≤ 16) ∧ (∀ b, kd b ≠ 12 → kd b ≠ 588 → f9 b = f b) ∧ (∀ b, kd b = 12 → ∀ j, fldR (f9 b) j = fldR (f b) j) ∧ (∀ b, kd b = 12 → ∀ j, j ≠ 5 → fldI (f9 b) j = fldI (f b) j) ∧ (∀ (w5 z5 : Int32), fldI (f o0) 5 = some w5 → fldI (f9 o0) 5 = some z5 → z5.toInt = 0)) (qP (dC, dI) cI cL cZ cR cG cH L) (fun q => q ∈ L)) [.ref o0].toArray s 0 0 (fun q => q ∈ L)) (F0 m 107 ls [.int y_100]) := by
                intro y_100 by_100 H locs hP hS ls hl
                refine lv_istore (lv' := [(4, .int y_100), (3, .int y_94), (2, .int y_83), (1, .int v_7), (0, .ref o0)]) hx hb dX12_takesRow_107 hl (by decide) rfl (fun ls hl => ?_)
                refine lv_iload_n hx hb dX12_takesRow_109 rfl (lv_at hl 1 rfl) ?_
                refine lv_if_ne (tgt := 126) hx hb dX12_takesRow_110 (by decide) (fun c_103 => ?_) (fun c_103 => ?_)
                · skip
                  rw [← Int32.toInt_inj, ti_0] at c_103
                  refine lv_iload hx hb dX12_takesRow_126 (lv_at hl 0 rfl) ?_
                  refine lv_if_ne (tgt := 146) hx hb dX12_takesRow_128 (by decide) (fun c_104 => ?_) (fun c_104 => ?_)
                  · skip
                    rw [← Int32.toInt_inj, ti_0] at c_104
                    refine lv_aload_n hx hb dX12_takesRow_146 rfl (lv_at hl 4 rfl) ?_
                    refine tk_getP (D := (dC, dI)) (ci := 12) (v := .ref a_2) (C := RX12) (T := TX12) (N := 56) hx hb hU inlX12 hown hK hP mo0 hfo_86 rfl 0 (by decide) (hU _ wd_169) (fun _ h9 => h9) rfl dX12_takesRow_147 ?_
                    refine lv_iload_n hx hb dX12_takesRow_150 rfl (lv_at hl 1 rfl) ?_
                    refine lv_iload hx hb dX12_takesRow_151 (lv_at hl 0 rfl) ?_
                    refine tk_SiP (As := [.ref a_2, .int y_94, .int y_100]) (rest := []) (n := 3) hx hb hml hown hU hN hZ (s_X12_hasPair_a575 l (dC, dI) cI cL cZ cR cG cH Z kd L f_85 hG a_2 ma_2 ka_2 y_94 (by constructor <;> omega) y_100 (by constructor <;> omega)) wd_628 wd_629 wd_5 wd_630 (by decide +kernel) ⟨Nat.le_of_ble_eq_true rfl, Nat.le_of_ble_eq_true rfl⟩ hK hP hD hS rfl hl.1 rfl (Nat.le_of_ble_eq_true rfl) dX12_takesRow_153 ⟨Nat.le_of_ble_eq_true rfl, Nat.le_of_ble_eq_true rfl⟩ (fun x_105 f_106 H locs hw hP hD hS => ?_)
                    obtain ⟨rfl, bx_105⟩ := hw
                    refine lv_if_ne (tgt := 161) hx hb dX12_takesRow_156 (by decide) (fun c_108 => ?_) (fun c_108 => ?_)
                    · skip
                      rw [← Int32.toInt_inj, ti_0] at c_108
                      refine lv_aload_n hx hb dX12_takesRow_161 rfl (lv_at hl 4 rfl) ?_
                      refine tk_getP (D := (dC, dI)) (ci := 12) (v := .ref a_22) (C := RX12) (T := TX12) (N := 56) hx hb hU inlX12 hown hK hP mo0 hfo_86 rfl 20 (by decide) (hU _ wd_180) (fun _ h9 => h9) rfl dX12_takesRow_162 ?_
                      refine lv_iload_n hx hb dX12_takesRow_165 rfl (lv_at hl 2 rfl) ?_
                      refine lv_bipush (v := 9) hx hb dX12_takesRow_166 (by decide) ?_
                      refine lv_iload_n hx hb dX12_takesRow_168 rfl (lv_at hl 1 rfl) ?_
                      refine lv_imul hx hb dX12_takesRow_169 ?_
                      refine lv_topi (fun x_109 ex_109 => ?_)
                      have hx_109 : x_109.toInt = 9 * y_94.toInt := by rw [ex_109, ml_I (by rw [ti_9]; omega) (by rw [ti_9]; omega), ti_9]
                      have bx_109 : (9 ≤ x_109.toInt ∧ x_109.toInt ≤ 72) := by constructor <;> omega
                      refine lv_iload hx hb dX12_takesRow_170 (lv_at hl 0 rfl) ?_
                      refine lv_iadd hx hb dX12_takesRow_172 ?_
                      refine lv_topi (fun x_110 ex_110 => ?_)
                      have hx_110 : x_110.toInt = x_109.toInt + y_100.toInt := by rw [ex_110, ad_I (by omega) (by omega)]
                      have bx_110 : (10 ≤ x_110.toInt ∧ x_110.toInt ≤ 80) := by constructor <;> omega
                      obtain ⟨g_112, hfo_111, hbg_112⟩ := un_588 (hG _ ma_22) ka_22
                      refine tk_istP hx hb hK hP hD hS 0 ma_22 hfo_111 rfl (vp_in_iff.mpr (by constructor <;> omega)) dX12_takesRow_173 (fun H locs hP hD hS => ?_)
                      obtain ⟨f_114, ef_114⟩ : ∃ y : Nat → va_E, y = va_up f_85 a_22 (.inl (cI, 20, .inl (upd g_112 (Int32.toNatClampNeg y_83) x_110))) := ⟨_, rfl⟩
                      have hP : va_P (dC, dI) vwCl (va_pl L f_114) H := by rw [ef_114]; exact hP
                      have hD : va_D (fun q => q ∈ L) (va_pl L f_114) := by rw [ef_114]; exact hD
                      have hG : GI (okc cI cL cZ cR cG cH L kd) kd L f_114 := by rw [ef_114]; exact hG.set a_22 (mk_588 ka_22 ⟨_, rfl, okI_up hbg_112 ⟨i32_lo _, i32_hi _⟩ _⟩)
                      have hfo_115 : f_114 o0 = .inr (12, [.ref a_2, .ref a_3, .ref a_4, .int v_5, .ref a_6, .int 0, .int v_8, .int v_9, .int v_10, .int v_11, .int v_12, .int v_13, .int v_14, .int v_15, .int v_16, .ref a_17, .ref a_18, .ref a_19, .ref a_20, .ref a_21, .ref a_22, .ref a_23, .ref a_24, .int v_25, .int v_26, .int v_27, .int v_28, .int v_29, .ref a_30, .int v_31, .ref a_32, .ref a_33, .int v_34, .int v_35, .ref a_36, .int v_37, .ref a_38, .ref a_39, .int v_40, .int v_41, .ref a_42, .ref a_43, .ref a_44, .int v_45, .ref a_46, .ref a_47, .ref a_48, .ref a_49, .ref a_50, .ref a_51, .ref a_52, .ref a_53, .ref a_54, .int v_55, .int v_56, .ref a_57]) := by rw [ef_114, up_ne (kd_ne ka_22 ko0 (by decide))]; exact hfo_86
                      have hfo_116 : f_114 a_6 = .inl (cI, 600, .inl g_92) := by rw [ef_114, up_ne (kd_ne ka_22 ka_6 (by decide))]; exact hfo_91
                      have hfr0 : ∀ b, kd b ≠ 12 → kd b ≠ 588 → f_114 b = f b := fun b q12 q588 => (congrFun ef_114 b).trans ((up_ne (fun e9 => q588 (by rw [e9]; exact ka_22))).trans (hfr0 b q12 q588))
                      have hrA12 : ∀ b, kd b = 12 → ∀ j, fldR (f_114 b) j = fldR (f b) j := fun b kb j => (congrArg (fun x => fldR x j) ((congrFun ef_114 b).trans (up_ne (kd_ne ka_22 kb (by decide))))).trans (hrA12 b kb j)
                      have hfA12 : ∀ b, kd b = 12 → ∀ j, j ≠ 5 → fldI (f_114 b) j = fldI (f b) j := fun b kb j n5 => (congrArg (fun x => fldI x j) ((congrFun ef_114 b).trans (up_ne (kd_ne ka_22 kb (by decide))))).trans (hfA12 b kb j n5)
                      have hfo_117 : f_114 a_22 = .inl (cI, 20, .inl (upd g_112 (Int32.toNatClampNeg y_83) x_110)) := by rw [ef_114]; exact up_self
                      obtain ⟨x_118, ex_118⟩ : ∃ y : Int32, y_83 + 1 = y := ⟨_, rfl⟩
                      have hx_118 : x_118.toInt = y_83.toInt + 1 := by rw [← ex_118, ad_I (by rw [ti_1]; omega) (by rw [ti_1]; omega), ti_1]
                      have bx_118 : (1 ≤ x_118.toInt ∧ x_118.toInt ≤ 16) := by constructor <;> omega
                      refine lv_iinc (v := x_118) (lv' := [(2, .int x_118), (4, .int y_100), (3, .int y_94), (1, .int v_7), (0, .ref o0)]) hx hb dX12_takesRow_174 hl (k := 2) rfl ex_118 (by decide) rfl (fun ls hl => ?_)
                      refine lv_goto (tgt := 31) hx hb dX12_takesRow_177 (by decide) ?_
                      exact ih_hloop_82 x_118 (by constructor <;> omega) f_114 hG _ _ hP hS hD hfr0 hrA12 hfA12 hfo_115 (by omega) ls (lv_sub hl [0, 3, 4] rfl)
                    · skip
                      rw [← Int32.toInt_inj, ti_0] at c_108
                      refine lv_iconst (v := (-1)) hx hb dX12_takesRow_159 (by decide) ?_
                      exact W.iret (v := (-1)) hx hb hr (fun t ht hW => ⟨⟨(-1), f_85, rfl, ⟨hG, (by decide), hfr0, hrA12, hfA12, (by intro w5 z5 e5 d5; rw [hfo_1] at e5; rw [hfo_86] at d5; obtain rfl := Option.some.inj e5; obtain rfl := Option.some.inj d5; (try rw [ti_0]) <;> (try rw [ti_m1]) <;> omega)⟩, by rw [ht]; exact hP, va_K.moved hW.alike hK, pl_in hD⟩, hS.F ht⟩) hS.2.2 dX12_takesRow_160
                  · skip
                    rw [← Int32.toInt_inj, ti_0] at c_104
                    refine lv_aload_n hx hb dX12_takesRow_131 rfl (lv_at hl 4 rfl) ?_
                    refine tk_getP (D := (dC, dI)) (ci := 12) (v := .ref a_6) (C := RX12) (T := TX12) (N := 56) hx hb hU inlX12 hown hK hP mo0 hfo_86 rfl 4 (by decide) (hU _ wd_172) (fun _ h9 => h9) rfl dX12_takesRow_132 ?_
                    refine lv_iconst (v := 2) hx hb dX12_takesRow_135 (by decide) ?_
                    refine lv_iload_n hx hb dX12_takesRow_136 rfl (lv_at hl 2 rfl) ?_
                    refine lv_imul hx hb dX12_takesRow_137 ?_
                    refine lv_topi (fun x_119 ex_119 => ?_)
                    have hx_119 : x_119.toInt = 2 * y_83.toInt := by rw [ex_119, ml_I (by rw [ti_2]; omega) (by rw [ti_2]; omega), ti_2]
                    have bx_119 : (0 ≤ x_119.toInt ∧ x_119.toInt ≤ 30) := by constructor <;> omega
                    refine lv_iconst (v := 1) hx hb dX12_takesRow_138 (by decide) ?_
                    refine lv_iadd hx hb dX12_takesRow_139 ?_
                    refine lv_topi (fun x_120 ex_120 => ?_)
                    have hx_120 : x_120.toInt = x_119.toInt + 1 := by rw [ex_120, ad_I (by rw [ti_1]; omega) (by rw [ti_1]; omega), ti_1]
                    have bx_120 : (1 ≤ x_120.toInt ∧ x_120.toInt ≤ 31) := by constructor <;> omega
                    refine tk_ildP hx hb hK hP 0 ma_6 hfo_91 rfl (vp_in_iff.mpr (by constructor <;> omega)) dX12_takesRow_140 ?_
                    refine lv_topi (fun x_121 ex_121 => ?_)
                    have bx_121 : (0 ≤ x_121.toInt ∧ x_121.toInt ≤ 255) := by rw [ex_121]; exact hbg_92 _
                    refine lv_bipush (v := 48) hx hb dX12_takesRow_141 (by decide) ?_
                    refine lv_icmp_ne (tgt := 159) hx hb dX12_takesRow_143 (by decide) (fun c_122 => ?_) (fun c_122 => ?_)
                    · skip
                      rw [← Int32.toInt_inj, ti_48] at c_122
                      refine lv_iconst (v := (-1)) hx hb dX12_takesRow_159 (by decide) ?_
                      exact W.iret (v := (-1)) hx hb hr (fun t ht hW => ⟨⟨(-1), f_85, rfl, ⟨hG, (by decide), hfr0, hrA12, hfA12, (by intro w5 z5 e5 d5; rw [hfo_1] at e5; rw [hfo_86] at d5; obtain rfl := Option.some.inj e5; obtain rfl := Option.some.inj d5; (try rw [ti_0]) <;> (try rw [ti_m1]) <;> omega)⟩, by rw [ht]; exact hP, va_K.moved hW.alike hK, pl_in hD⟩, hS.F ht⟩) hS.2.2 dX12_takesRow_160
                    · skip
                      rw [← Int32.toInt_inj, ti_48] at c_122
                      refine lv_aload_n hx hb dX12_takesRow_146 rfl (lv_at hl 4 rfl) ?_
                      refine tk_getP (D := (dC, dI)) (ci := 12) (v := .ref a_2) (C := RX12) (T := TX12) (N := 56) hx hb hU inlX12 hown hK hP mo0 hfo_86 rfl 0 (by decide) (hU _ wd_169) (fun _ h9 => h9) rfl dX12_takesRow_147 ?_
                      refine lv_iload_n hx hb dX12_takesRow_150 rfl (lv_at hl 1 rfl) ?_
                      refine lv_iload hx hb dX12_takesRow_151 (lv_at hl 0 rfl) ?_
                      refine tk_SiP (As := [.ref a_2, .int y_94, .int y_100]) (rest := []) (n := 3) hx hb hml hown hU hN hZ (s_X12_hasPair_a575 l (dC, dI) cI cL cZ cR cG cH Z kd L f_85 hG a_2 ma_2 ka_2 y_94 (by constructor <;> omega) y_100 (by constructor <;> omega)) wd_628 wd_629 wd_5 wd_630 (by decide +kernel) ⟨Nat.le_of_ble_eq_true rfl, Nat.le_of_ble_eq_true rfl⟩ hK hP hD hS rfl hl.1 rfl (Nat.le_of_ble_eq_true rfl) dX12_takesRow_153 ⟨Nat.le_of_ble_eq_true rfl, Nat.le_of_ble_eq_true rfl⟩ (fun x_123 f_124 H locs hw hP hD hS => ?_)
                      obtain ⟨rfl, bx_123⟩ := hw
                      refine lv_if_ne (tgt := 161) hx hb dX12_takesRow_156 (by decide) (fun c_126 => ?_) (fun c_126 => ?_)
                      · skip
                        rw [← Int32.toInt_inj, ti_0] at c_126
                        refine lv_aload_n hx hb dX12_takesRow_161 rfl (lv_at hl 4 rfl) ?_
                        refine tk_getP (D := (dC, dI)) (ci := 12) (v := .ref a_22) (C := RX12) (T := TX12) (N := 56) hx hb hU inlX12 hown hK hP mo0 hfo_86 rfl 20 (by decide) (hU _ wd_180) (fun _ h9 => h9) rfl dX12_takesRow_162 ?_
                        refine lv_iload_n hx hb dX12_takesRow_165 rfl (lv_at hl 2 rfl) ?_
                        refine lv_bipush (v := 9) hx hb dX12_takesRow_166 (by decide) ?_
                        refine lv_iload_n hx hb dX12_takesRow_168 rfl (lv_at hl 1 rfl) ?_
                        refine lv_imul hx hb dX12_takesRow_169 ?_
                        refine lv_topi (fun x_127 ex_127 => ?_)
                        have hx_127 : x_127.toInt = 9 * y_94.toInt := by rw [ex_127, ml_I (by rw [ti_9]; omega) (by rw [ti_9]; omega), ti_9]
                        have bx_127 : (9 ≤ x_127.toInt ∧ x_127.toInt ≤ 72) := by constructor <;> omega
                        refine lv_iload hx hb dX12_takesRow_170 (lv_at hl 0 rfl) ?_
                        refine lv_iadd hx hb dX12_takesRow_172 ?_
                        refine lv_topi (fun x_128 ex_128 => ?_)
                        have hx_128 : x_128.toInt = x_127.toInt + y_100.toInt := by rw [ex_128, ad_I (by omega) (by omega)]
                        have bx_128 : (9 ≤ x_128.toInt ∧ x_128.toInt ≤ 72) := by constructor <;> omega
                        obtain ⟨g_130, hfo_129, hbg_130⟩ := un_588 (hG _ ma_22) ka_22
                        refine tk_istP hx hb hK hP hD hS 0 ma_22 hfo_129 rfl (vp_in_iff.mpr (by constructor <;> omega)) dX12_takesRow_173 (fun H locs hP hD hS => ?_)
                        obtain ⟨f_132, ef_132⟩ : ∃ y : Nat → va_E, y = va_up f_85 a_22 (.inl (cI, 20, .inl (upd g_130 (Int32.toNatClampNeg y_83) x_128))) := ⟨_, rfl⟩
                        have hP : va_P (dC, dI) vwCl (va_pl L f_132) H := by rw [ef_132]; exact hP
                        have hD : va_D (fun q => q ∈ L) (va_pl L f_132) := by rw [ef_132]; exact hD
                        have hG : GI (okc cI cL cZ cR cG cH L kd) kd L f_132 := by rw [ef_132]; exact hG.set a_22 (mk_588 ka_22 ⟨_, rfl, okI_up hbg_130 ⟨i32_lo _, i32_hi _⟩ _⟩)
                        have hfo_133 : f_132 o0 = .inr (12, [.ref a_2, .ref a_3, .ref a_4, .int v_5, .ref a_6, .int 0, .int v_8, .int v_9, .int v_10, .int v_11, .int v_12, .int v_13, .int v_14, .int v_15, .int v_16, .ref a_17, .ref a_18, .ref a_19, .ref a_20, .ref a_21, .ref a_22, .ref a_23, .ref a_24, .int v_25, .int v_26, .int v_27, .int v_28, .int v_29, .ref a_30, .int v_31, .ref a_32, .ref a_33, .int v_34, .int v_35, .ref a_36, .int v_37, .ref a_38, .ref a_39, .int v_40, .int v_41, .ref a_42, .ref a_43, .ref a_44, .int v_45, .ref a_46, .ref a_47, .ref a_48, .ref a_49, .ref a_50, .ref a_51, .ref a_52, .ref a_53, .ref a_54, .int v_55, .int v_56, .ref a_57]) := by rw [ef_132, up_ne (kd_ne ka_22 ko0 (by decide))]; exact hfo_86
                        have hfo_134 : f_132 a_6 = .inl (cI, 600, .inl g_92) := by rw [ef_132, up_ne (kd_ne ka_22 ka_6 (by decide))]; exact hfo_91
                        have hfr0 : ∀ b, kd b ≠ 12 → kd b ≠ 588 → f_132 b = f b := fun b q12 q588 => (congrFun ef_132 b).trans ((up_ne (fun e9 => q588 (by rw [e9]; exact ka_22))).trans (hfr0 b q12 q588))
                        have hrA12 : ∀ b, kd b = 12 → ∀ j, fldR (f_132 b) j = fldR (f b) j := fun b kb j => (congrArg (fun x => fldR x j) ((congrFun ef_132 b).trans (up_ne (kd_ne ka_22 kb (by decide))))).trans (hrA12 b kb j)
                        have hfA12 : ∀ b, kd b = 12 → ∀ j, j ≠ 5 → fldI (f_132 b) j = fldI (f b) j := fun b kb j n5 => (congrArg (fun x => fldI x j) ((congrFun ef_132 b).trans (up_ne (kd_ne ka_22 kb (by decide))))).trans (hfA12 b kb j n5)
                        have hfo_135 : f_132 a_22 = .inl (cI, 20, .inl (upd g_130 (Int32.toNatClampNeg y_83) x_128)) := by rw [ef_132]; exact up_self
                        obtain ⟨x_136, ex_136⟩ : ∃ y : Int32, y_83 + 1 = y := ⟨_, rfl⟩
                        have hx_136 : x_136.toInt = y_83.toInt + 1 := by rw [← ex_136, ad_I (by rw [ti_1]; omega) (by rw [ti_1]; omega), ti_1]
                        have bx_136 : (1 ≤ x_136.toInt ∧ x_136.toInt ≤ 16) := by constructor <;> omega
                        refine lv_iinc (v := x_136) (lv' := [(2, .int x_136), (4, .int y_100), (3, .int y_94), (1, .int v_7), (0, .ref o0)]) hx hb dX12_takesRow_174 hl (k := 2) rfl ex_136 (by decide) rfl (fun ls hl => ?_)
                        refine lv_goto (tgt := 31) hx hb dX12_takesRow_177 (by decide) ?_
                        exact ih_hloop_82 x_136 (by constructor <;> omega) f_132 hG _ _ hP hS hD hfr0 hrA12 hfA12 hfo_133 (by omega) ls (lv_sub hl [0, 3, 4] rfl)
                      · skip
                        rw [← Int32.toInt_inj, ti_0] at c_126
                        refine lv_iconst (v := (-1)) hx hb dX12_takesRow_159 (by decide) ?_
                        exact W.iret (v := (-1)) hx hb hr (fun t ht hW => ⟨⟨(-1), f_85, rfl, ⟨hG, (by decide), hfr0, hrA12, hfA12, (by intro w5 z5 e5 d5; rw [hfo_1] at e5; rw [hfo_86] at d5; obtain rfl := Option.some.inj e5; obtain rfl := Option.some.inj d5; (try rw [ti_0]) <;> (try rw [ti_m1]) <;> omega)⟩, by rw [ht]; exact hP, va_K.moved hW.alike hK, pl_in hD⟩, hS.F ht⟩) hS.2.2 dX12_takesRow_160
                · skip
                  rw [← Int32.toInt_inj, ti_0] at c_103
                  refine lv_aload_n hx hb dX12_takesRow_113 rfl (lv_at hl 4 rfl) ?_
                  refine tk_getP (D := (dC, dI)) (ci := 12) (v := .ref a_6) (C := RX12) (T := TX12) (N := 56) hx hb hU inlX12 hown hK hP mo0 hfo_86 rfl 4 (by decide) (hU _ wd_172) (fun _ h9 => h9) rfl dX12_takesRow_114 ?_
                  refine lv_iconst (v := 2) hx hb dX12_takesRow_117 (by decide) ?_
                  refine lv_iload_n hx hb dX12_takesRow_118 rfl (lv_at hl 2 rfl) ?_
                  refine lv_imul hx hb dX12_takesRow_119 ?_
                  refine lv_topi (fun x_137 ex_137 => ?_)
                  have hx_137 : x_137.toInt = 2 * y_83.toInt := by rw [ex_137, ml_I (by rw [ti_2]; omega) (by rw [ti_2]; omega), ti_2]
                  have bx_137 : (0 ≤ x_137.toInt ∧ x_137.toInt ≤ 30) := by constructor <;> omega
                  refine tk_ildP hx hb hK hP 0 ma_6 hfo_91 rfl (vp_in_iff.mpr (by constructor <;> omega)) dX12_takesRow_120 ?_
                  refine lv_topi (fun x_138 ex_138 => ?_)
                  have bx_138 : (0 ≤ x_138.toInt ∧ x_138.toInt ≤ 255) := by rw [ex_138]; exact hbg_92 _
                  refine lv_bipush (v := 48) hx hb dX12_takesRow_121 (by decide) ?_
                  refine lv_icmp_ne (tgt := 159) hx hb dX12_takesRow_123 (by decide) (fun c_139 => ?_) (fun c_139 => ?_)
                  · skip
                    rw [← Int32.toInt_inj, ti_48] at c_139
                    refine lv_iconst (v := (-1)) hx hb dX12_takesRow_159 (by decide) ?_
                    exact W.iret (v := (-1)) hx hb hr (fun t ht hW => ⟨⟨(-1), f_85, rfl, ⟨hG, (by decide), hfr0, hrA12, hfA12, (by intro w5 z5 e5 d5; rw [hfo_1] at e5; rw [hfo_86] at d5; obtain rfl := Option.some.inj e5; obtain rfl := Option.some.inj d5; (try rw [ti_0]) <;> (try rw [ti_m1]) <;> omega)⟩, by rw [ht]; exact hP, va_K.moved hW.alike hK, pl_in hD⟩, hS.F ht⟩) hS.2.2 dX12_takesRow_160
                  · skip
                    rw [← Int32.toInt_inj, ti_48] at c_139
                    refine lv_iload hx hb dX12_takesRow_126 (lv_at hl 0 rfl) ?_
                    refine lv_if_ne (tgt := 146) hx hb dX12_takesRow_128 (by decide) (fun c_140 => ?_) (fun c_140 => ?_)
                    · skip
                      rw [← Int32.toInt_inj, ti_0] at c_140
                      refine lv_aload_n hx hb dX12_takesRow_146 rfl (lv_at hl 4 rfl) ?_
                      refine tk_getP (D := (dC, dI)) (ci := 12) (v := .ref a_2) (C := RX12) (T := TX12) (N := 56) hx hb hU inlX12 hown hK hP mo0 hfo_86 rfl 0 (by decide) (hU _ wd_169) (fun _ h9 => h9) rfl dX12_takesRow_147 ?_
                      refine lv_iload_n hx hb dX12_takesRow_150 rfl (lv_at hl 1 rfl) ?_
                      refine lv_iload hx hb dX12_takesRow_151 (lv_at hl 0 rfl) ?_
                      refine tk_SiP (As := [.ref a_2, .int y_94, .int y_100]) (rest := []) (n := 3) hx hb hml hown hU hN hZ (s_X12_hasPair_a575 l (dC, dI) cI cL cZ cR cG cH Z kd L f_85 hG a_2 ma_2 ka_2 y_94 (by constructor <;> omega) y_100 (by constructor <;> omega)) wd_628 wd_629 wd_5 wd_630 (by decide +kernel) ⟨Nat.le_of_ble_eq_true rfl, Nat.le_of_ble_eq_true rfl⟩ hK hP hD hS rfl hl.1 rfl (Nat.le_of_ble_eq_true rfl) dX12_takesRow_153 ⟨Nat.le_of_ble_eq_true rfl, Nat.le_of_ble_eq_true rfl⟩ (fun x_141 f_142 H locs hw hP hD hS => ?_)
                      obtain ⟨rfl, bx_141⟩ := hw
                      refine lv_if_ne (tgt := 161) hx hb dX12_takesRow_156 (by decide) (fun c_144 => ?_) (fun c_144 => ?_)
                      · skip
                        rw [← Int32.toInt_inj, ti_0] at c_144
                        refine lv_aload_n hx hb dX12_takesRow_161 rfl (lv_at hl 4 rfl) ?_
                        refine tk_getP (D := (dC, dI)) (ci := 12) (v := .ref a_22) (C := RX12) (T := TX12) (N := 56) hx hb hU inlX12 hown hK hP mo0 hfo_86 rfl 20 (by decide) (hU _ wd_180) (fun _ h9 => h9) rfl dX12_takesRow_162 ?_
                        refine lv_iload_n hx hb dX12_takesRow_165 rfl (lv_at hl 2 rfl) ?_
                        refine lv_bipush (v := 9) hx hb dX12_takesRow_166 (by decide) ?_
                        refine lv_iload_n hx hb dX12_takesRow_168 rfl (lv_at hl 1 rfl) ?_
                        refine lv_imul hx hb dX12_takesRow_169 ?_
                        refine lv_topi (fun x_145 ex_145 => ?_)
                        have hx_145 : x_145.toInt = 9 * y_94.toInt := by rw [ex_145, ml_I (by rw [ti_9]; omega) (by rw [ti_9]; omega), ti_9]
                        have bx_145 : (0 ≤ x_145.toInt ∧ x_145.toInt ≤ 0) := by constructor <;> omega
                        refine lv_iload hx hb dX12_takesRow_170 (lv_at hl 0 rfl) ?_
                        refine lv_iadd hx hb dX12_takesRow_172 ?_
                        refine lv_topi (fun x_146 ex_146 => ?_)
                        have hx_146 : x_146.toInt = x_145.toInt + y_100.toInt := by rw [ex_146, ad_I (by omega) (by omega)]
                        have bx_146 : (1 ≤ x_146.toInt ∧ x_146.toInt ≤ 8) := by constructor <;> omega
                        obtain ⟨g_148, hfo_147, hbg_148⟩ := un_588 (hG _ ma_22) ka_22
                        refine tk_istP hx hb hK hP hD hS 0 ma_22 hfo_147 rfl (vp_in_iff.mpr (by constructor <;> omega)) dX12_takesRow_173 (fun H locs hP hD hS => ?_)
                        obtain ⟨f_150, ef_150⟩ : ∃ y : Nat → va_E, y = va_up f_85 a_22 (.inl (cI, 20, .inl (upd g_148 (Int32.toNatClampNeg y_83) x_146))) := ⟨_, rfl⟩
                        have hP : va_P (dC, dI) vwCl (va_pl L f_150) H := by rw [ef_150]; exact hP
                        have hD : va_D (fun q => q ∈ L) (va_pl L f_150) := by rw [ef_150]; exact hD
                        have hG : GI (okc cI cL cZ cR cG cH L kd) kd L f_150 := by rw [ef_150]; exact hG.set a_22 (mk_588 ka_22 ⟨_, rfl, okI_up hbg_148 ⟨i32_lo _, i32_hi _⟩ _⟩)
                        have hfo_151 : f_150 o0 = .inr (12, [.ref a_2, .ref a_3, .ref a_4, .int v_5, .ref a_6, .int 0, .int v_8, .int v_9, .int v_10, .int v_11, .int v_12, .int v_13, .int v_14, .int v_15, .int v_16, .ref a_17, .ref a_18, .ref a_19, .ref a_20, .ref a_21, .ref a_22, .ref a_23, .ref a_24, .int v_25, .int v_26, .int v_27, .int v_28, .int v_29, .ref a_30, .int v_31, .ref a_32, .ref a_33, .int v_34, .int v_35, .ref a_36, .int v_37, .ref a_38, .ref a_39, .int v_40, .int v_41, .ref a_42, .ref a_43, .ref a_44, .int v_45, .ref a_46, .ref a_47, .ref a_48, .ref a_49, .ref a_50, .ref a_51, .ref a_52, .ref a_53, .ref a_54, .int v_55, .int v_56, .ref a_57]) := by rw [ef_150, up_ne (kd_ne ka_22 ko0 (by decide))]; exact hfo_86
                        have hfo_152 : f_150 a_6 = .inl (cI, 600, .inl g_92) := by rw [ef_150, up_ne (kd_ne ka_22 ka_6 (by decide))]; exact hfo_91
                        have hfr0 : ∀ b, kd b ≠ 12 → kd b ≠ 588 → f_150 b = f b := fun b q12 q588 => (congrFun ef_150 b).trans ((up_ne (fun e9 => q588 (by rw [e9]; exact ka_22))).trans (hfr0 b q12 q588))
                        have hrA12 : ∀ b, kd b = 12 → ∀ j, fldR (f_150 b) j = fldR (f b) j := fun b kb j => (congrArg (fun x => fldR x j) ((congrFun ef_150 b).trans (up_ne (kd_ne ka_22 kb (by decide))))).trans (hrA12 b kb j)
                        have hfA12 : ∀ b, kd b = 12 → ∀ j, j ≠ 5 → fldI (f_150 b) j = fldI (f b) j := fun b kb j n5 => (congrArg (fun x => fldI x j) ((congrFun ef_150 b).trans (up_ne (kd_ne ka_22 kb (by decide))))).trans (hfA12 b kb j n5)
                        have hfo_153 : f_150 a_22 = .inl (cI, 20, .inl (upd g_148 (Int32.toNatClampNeg y_83) x_146)) := by rw [ef_150]; exact up_self
                        obtain ⟨x_154, ex_154⟩ : ∃ y : Int32, y_83 + 1 = y := ⟨_, rfl⟩
                        have hx_154 : x_154.toInt = y_83.toInt + 1 := by rw [← ex_154, ad_I (by rw [ti_1]; omega) (by rw [ti_1]; omega), ti_1]
                        have bx_154 : (1 ≤ x_154.toInt ∧ x_154.toInt ≤ 16) := by constructor <;> omega
                        refine lv_iinc (v := x_154) (lv' := [(2, .int x_154), (4, .int y_100), (3, .int y_94), (1, .int v_7), (0, .ref o0)]) hx hb dX12_takesRow_174 hl (k := 2) rfl ex_154 (by decide) rfl (fun ls hl => ?_)
                        refine lv_goto (tgt := 31) hx hb dX12_takesRow_177 (by decide) ?_
                        exact ih_hloop_82 x_154 (by constructor <;> omega) f_150 hG _ _ hP hS hD hfr0 hrA12 hfA12 hfo_151 (by omega) ls (lv_sub hl [0, 3, 4] rfl)
                      · skip
                        rw [← Int32.toInt_inj, ti_0] at c_144
                        refine lv_iconst (v := (-1)) hx hb dX12_takesRow_159 (by decide) ?_
                        exact W.iret (v := (-1)) hx hb hr (fun t ht hW => ⟨⟨(-1), f_85, rfl, ⟨hG, (by decide), hfr0, hrA12, hfA12, (by intro w5 z5 e5 d5; rw [hfo_1] at e5; rw [hfo_86] at d5; obtain rfl := Option.some.inj e5; obtain rfl := Option.some.inj d5; (try rw [ti_0]) <;> (try rw [ti_m1]) <;> omega)⟩, by rw [ht]; exact hP, va_K.moved hW.alike hK, pl_in hD⟩, hS.F ht⟩) hS.2.2 dX12_takesRow_160
                    · skip
                      rw [← Int32.toInt_inj, ti_0] at c_140
                      refine lv_aload_n hx hb dX12_takesRow_131 rfl (lv_at hl 4 rfl) ?_
                      refine tk_getP (D := (dC, dI)) (ci := 12) (v := .ref a_6) (C := RX12) (T := TX12) (N := 56) hx hb hU inlX12 hown hK hP mo0 hfo_86 rfl 4 (by decide) (hU _ wd_172) (fun _ h9 => h9) rfl dX12_takesRow_132 ?_
                      refine lv_iconst (v := 2) hx hb dX12_takesRow_135 (by decide) ?_
                      refine lv_iload_n hx hb dX12_takesRow_136 rfl (lv_at hl 2 rfl) ?_
                      refine lv_imul hx hb dX12_takesRow_137 ?_
                      refine lv_topi (fun x_155 ex_155 => ?_)
                      have hx_155 : x_155.toInt = 2 * y_83.toInt := by rw [ex_155, ml_I (by rw [ti_2]; omega) (by rw [ti_2]; omega), ti_2]
                      have bx_155 : (0 ≤ x_155.toInt ∧ x_155.toInt ≤ 30) := by constructor <;> omega
                      refine lv_iconst (v := 1) hx hb dX12_takesRow_138 (by decide) ?_
                      refine lv_iadd hx hb dX12_takesRow_139 ?_
                      refine lv_topi (fun x_156 ex_156 => ?_)
                      have hx_156 : x_156.toInt = x_155.toInt + 1 := by rw [ex_156, ad_I (by rw [ti_1]; omega) (by rw [ti_1]; omega), ti_1]
                      have bx_156 : (1 ≤ x_156.toInt ∧ x_156.toInt ≤ 31) := by constructor <;> omega
                      refine tk_ildP hx hb hK hP 0 ma_6 hfo_91 rfl (vp_in_iff.mpr (by constructor <;> omega)) dX12_takesRow_140 ?_
                      refine lv_topi (fun x_157 ex_157 => ?_)
                      have bx_157 : (0 ≤ x_157.toInt ∧ x_157.toInt ≤ 255) := by rw [ex_157]; exact hbg_92 _
                      refine lv_bipush (v := 48) hx hb dX12_takesRow_141 (by decide) ?_
                      refine lv_icmp_ne (tgt := 159) hx hb dX12_takesRow_143 (by decide) (fun c_158 => ?_) (fun c_158 => ?_)
                      · skip
                        rw [← Int32.toInt_inj, ti_48] at c_158
                        refine lv_iconst (v := (-1)) hx hb dX12_takesRow_159 (by decide) ?_
                        exact W.iret (v := (-1)) hx hb hr (fun t ht hW => ⟨⟨(-1), f_85, rfl, ⟨hG, (by decide), hfr0, hrA12, hfA12, (by intro w5 z5 e5 d5; rw [hfo_1] at e5; rw [hfo_86] at d5; obtain rfl := Option.some.inj e5; obtain rfl := Option.some.inj d5; (try rw [ti_0]) <;> (try rw [ti_m1]) <;> omega)⟩, by rw [ht]; exact hP, va_K.moved hW.alike hK, pl_in hD⟩, hS.F ht⟩) hS.2.2 dX12_takesRow_160
                      · skip
                        rw [← Int32.toInt_inj, ti_48] at c_158
                        refine lv_aload_n hx hb dX12_takesRow_146 rfl (lv_at hl 4 rfl) ?_
                        refine tk_getP (D := (dC, dI)) (ci := 12) (v := .ref a_2) (C := RX12) (T := TX12) (N := 56) hx hb hU inlX12 hown hK hP mo0 hfo_86 rfl 0 (by decide) (hU _ wd_169) (fun _ h9 => h9) rfl dX12_takesRow_147 ?_
                        refine lv_iload_n hx hb dX12_takesRow_150 rfl (lv_at hl 1 rfl) ?_
                        refine lv_iload hx hb dX12_takesRow_151 (lv_at hl 0 rfl) ?_
                        refine tk_SiP (As := [.ref a_2, .int y_94, .int y_100]) (rest := []) (n := 3) hx hb hml hown hU hN hZ (s_X12_hasPair_a575 l (dC, dI) cI cL cZ cR cG cH Z kd L f_85 hG a_2 ma_2 ka_2 y_94 (by constructor <;> omega) y_100 (by constructor <;> omega)) wd_628 wd_629 wd_5 wd_630 (by decide +kernel) ⟨Nat.le_of_ble_eq_true rfl, Nat.le_of_ble_eq_true rfl⟩ hK hP hD hS rfl hl.1 rfl (Nat.le_of_ble_eq_true rfl) dX12_takesRow_153 ⟨Nat.le_of_ble_eq_true rfl, Nat.le_of_ble_eq_true rfl⟩ (fun x_159 f_160 H locs hw hP hD hS => ?_)
                        obtain ⟨rfl, bx_159⟩ := hw
                        refine lv_if_ne (tgt := 161) hx hb dX12_takesRow_156 (by decide) (fun c_162 => ?_) (fun c_162 => ?_)
                        · skip
                          rw [← Int32.toInt_inj, ti_0] at c_162
                          refine lv_aload_n hx hb dX12_takesRow_161 rfl (lv_at hl 4 rfl) ?_
                          refine tk_getP (D := (dC, dI)) (ci := 12) (v := .ref a_22) (C := RX12) (T := TX12) (N := 56) hx hb hU inlX12 hown hK hP mo0 hfo_86 rfl 20 (by decide) (hU _ wd_180) (fun _ h9 => h9) rfl dX12_takesRow_162 ?_
                          refine lv_iload_n hx hb dX12_takesRow_165 rfl (lv_at hl 2 rfl) ?_
                          refine lv_bipush (v := 9) hx hb dX12_takesRow_166 (by decide) ?_
                          refine lv_iload_n hx hb dX12_takesRow_168 rfl (lv_at hl 1 rfl) ?_
                          refine lv_imul hx hb dX12_takesRow_169 ?_
                          refine lv_topi (fun x_163 ex_163 => ?_)
                          have hx_163 : x_163.toInt = 9 * y_94.toInt := by rw [ex_163, ml_I (by rw [ti_9]; omega) (by rw [ti_9]; omega), ti_9]
                          have bx_163 : (0 ≤ x_163.toInt ∧ x_163.toInt ≤ 0) := by constructor <;> omega
                          refine lv_iload hx hb dX12_takesRow_170 (lv_at hl 0 rfl) ?_
                          refine lv_iadd hx hb dX12_takesRow_172 ?_
                          refine lv_topi (fun x_164 ex_164 => ?_)
                          have hx_164 : x_164.toInt = x_163.toInt + y_100.toInt := by rw [ex_164, ad_I (by omega) (by omega)]
                          have bx_164 : (0 ≤ x_164.toInt ∧ x_164.toInt ≤ 0) := by constructor <;> omega
                          obtain ⟨g_166, hfo_165, hbg_166⟩ := un_588 (hG _ ma_22) ka_22
                          refine tk_istP hx hb hK hP hD hS 0 ma_22 hfo_165 rfl (vp_in_iff.mpr (by constructor <;> omega)) dX12_takesRow_173 (fun H locs hP hD hS => ?_)
                          obtain ⟨f_168, ef_168⟩ : ∃ y : Nat → va_E, y = va_up f_85 a_22 (.inl (cI, 20, .inl (upd g_166 (Int32.toNatClampNeg y_83) x_164))) := ⟨_, rfl⟩
                          have hP : va_P (dC, dI) vwCl (va_pl L f_168) H := by rw [ef_168]; exact hP
                          have hD : va_D (fun q => q ∈ L) (va_pl L f_168) := by rw [ef_168]; exact hD
                          have hG : GI (okc cI cL cZ cR cG cH L kd) kd L f_168 := by rw [ef_168]; exact hG.set a_22 (mk_588 ka_22 ⟨_, rfl, okI_up hbg_166 ⟨i32_lo _, i32_hi _⟩ _⟩)
                          have hfo_169 : f_168 o0 = .inr (12, [.ref a_2, .ref a_3, .ref a_4, .int v_5, .ref a_6, .int 0, .int v_8, .int v_9, .int v_10, .int v_11, .int v_12, .int v_13, .int v_14, .int v_15, .int v_16, .ref a_17, .ref a_18, .ref a_19, .ref a_20, .ref a_21, .ref a_22, .ref a_23, .ref a_24, .int v_25, .int v_26, .int v_27, .int v_28, .int v_29, .ref a_30, .int v_31, .ref a_32, .ref a_33, .int v_34, .int v_35, .ref a_36, .int v_37, .ref a_38, .ref a_39, .int v_40, .int v_41, .ref a_42, .ref a_43, .ref a_44, .int v_45, .ref a_46, .ref a_47, .ref a_48, .ref a_49, .ref a_50, .ref a_51, .ref a_52, .ref a_53, .ref a_54, .int v_55, .int v_56, .ref a_57]) := by rw [ef_168, up_ne (kd_ne ka_22 ko0 (by decide))]; exact hfo_86
                          have hfo_170 : f_168 a_6 = .inl (cI, 600, .inl g_92) := by rw [ef_168, up_ne (kd_ne ka_22 ka_6 (by decide))]; exact hfo_91
                          have hfr0 : ∀ b, kd b ≠ 12 → kd b ≠ 588 → f_168 b = f b := fun b q12 q588 => (congrFun ef_168 b).trans ((up_ne (fun e9 => q588 (by rw [e9]; exact ka_22))).trans (hfr0 b q12 q588))
                          have hrA12 : ∀ b, kd b = 12 → ∀ j, fldR (f_168 b) j = fldR (f b) j := fun b kb j => (congrArg (fun x => fldR x j) ((congrFun ef_168 b).trans (up_ne (kd_ne ka_22 kb (by decide))))).trans (hrA12 b kb j)
                          have hfA12 : ∀ b, kd b = 12 → ∀ j, j ≠ 5 → fldI (f_168 b) j = fldI (f b) j := fun b kb j n5 => (congrArg (fun x => fldI x j) ((congrFun ef_168 b).trans (up_ne (kd_ne ka_22 kb (by decide))))).trans (hfA12 b kb j n5)
                          have hfo_171 : f_168 a_22 = .inl (cI, 20, .inl (upd g_166 (Int32.toNatClampNeg y_83) x_164)) := by rw [ef_168]; exact up_self
                          obtain ⟨x_172, ex_172⟩ : ∃ y : Int32, y_83 + 1 = y := ⟨_, rfl⟩
                          have hx_172 : x_172.toInt = y_83.toInt + 1 := by rw [← ex_172, ad_I (by rw [ti_1]; omega) (by rw [ti_1]; omega), ti_1]
                          have bx_172 : (1 ≤ x_172.toInt ∧ x_172.toInt ≤ 16) := by constructor <;> omega
                          refine lv_iinc (v := x_172) (lv' := [(2, .int x_172), (4, .int y_100), (3, .int y_94), (1, .int v_7), (0, .ref o0)]) hx hb dX12_takesRow_174 hl (k := 2) rfl ex_172 (by decide) rfl (fun ls hl => ?_)
                          refine lv_goto (tgt := 31) hx hb dX12_takesRow_177 (by decide) ?_
                          exact ih_hloop_82 x_172 (by constructor <;> omega) f_168 hG _ _ hP hS hD hfr0 hrA12 hfA12 hfo_169 (by omega) ls (lv_sub hl [0, 3, 4] rfl)
                        · skip
                          rw [← Int32.toInt_inj, ti_0] at c_162
                          refine lv_iconst (v := (-1)) hx hb dX12_takesRow_159 (by decide) ?_
                          exact W.iret (v := (-1)) hx hb hr (fun t ht hW => ⟨⟨(-1), f_85, rfl, ⟨hG, (by decide), hfr0, hrA12, hfA12, (by intro w5 z5 e5 d5; rw [hfo_1] at e5; rw [hfo_86] at d5; obtain rfl := Option.some.inj e5; obtain rfl := Option.some.inj d5; (try rw [ti_0]) <;> (try rw [ti_m1]) <;> omega)⟩, by rw [ht]; exact hP, va_K.moved hW.alike hK, pl_in hD⟩, hS.F ht⟩) hS.2.2 dX12_takesRow_160
              refine lv_icmp_ne (tgt := 90) hx hb dX12_takesRow_83 (by decide) (fun c_173 => ?_) (fun c_173 => ?_)
              · skip
                rw [← Int32.toInt_inj, ti_48] at c_173
                refine lv_aload_n hx hb dX12_takesRow_90 rfl (lv_at hl 3 rfl) ?_
                refine tk_getP (D := (dC, dI)) (ci := 12) (v := .ref a_2) (C := RX12) (T := TX12) (N := 56) hx hb hU inlX12 hown hK hP mo0 hfo_86 rfl 0 (by decide) (hU _ wd_169) (fun _ h9 => h9) rfl dX12_takesRow_91 ?_
                refine lv_aload_n hx hb dX12_takesRow_94 rfl (lv_at hl 3 rfl) ?_
                refine tk_getP (D := (dC, dI)) (ci := 12) (v := .ref a_6) (C := RX12) (T := TX12) (N := 56) hx hb hU inlX12 hown hK hP mo0 hfo_86 rfl 4 (by decide) (hU _ wd_172) (fun _ h9 => h9) rfl dX12_takesRow_95 ?_
                refine lv_iconst (v := 2) hx hb dX12_takesRow_98 (by decide) ?_
                refine lv_iload_n hx hb dX12_takesRow_99 rfl (lv_at hl 1 rfl) ?_
                refine lv_imul hx hb dX12_takesRow_100 ?_
                refine lv_topi (fun x_174 ex_174 => ?_)
                have hx_174 : x_174.toInt = 2 * y_83.toInt := by rw [ex_174, ml_I (by rw [ti_2]; omega) (by rw [ti_2]; omega), ti_2]
                have bx_174 : (0 ≤ x_174.toInt ∧ x_174.toInt ≤ 30) := by constructor <;> omega
                refine lv_iconst (v := 1) hx hb dX12_takesRow_101 (by decide) ?_
                refine lv_iadd hx hb dX12_takesRow_102 ?_
                refine lv_topi (fun x_175 ex_175 => ?_)
                have hx_175 : x_175.toInt = x_174.toInt + 1 := by rw [ex_175, ad_I (by rw [ti_1]; omega) (by rw [ti_1]; omega), ti_1]
                have bx_175 : (1 ≤ x_175.toInt ∧ x_175.toInt ≤ 31) := by constructor <;> omega
                refine tk_ildP hx hb hK hP 0 ma_6 hfo_91 rfl (vp_in_iff.mpr (by constructor <;> omega)) dX12_takesRow_103 ?_
                refine lv_topi (fun x_176 ex_176 => ?_)
                have bx_176 : (0 ≤ x_176.toInt ∧ x_176.toInt ≤ 255) := by rw [ex_176]; exact hbg_92 _
                refine tk_SiP (As := [.ref a_2, .int x_176]) (rest := []) (n := 2) hx hb hml hown hU hN hZ (s_X12_letterIn_a575 l (dC, dI) cI cL cZ cR cG cH Z kd L f_85 hG a_2 ma_2 ka_2 x_176) wd_606 wd_607 wd_5 wd_608 (by decide +kernel) ⟨Nat.le_of_ble_eq_true rfl, Nat.le_of_ble_eq_true rfl⟩ hK hP hD hS rfl hl.1 rfl (Nat.le_of_ble_eq_true rfl) dX12_takesRow_104 ⟨Nat.le_of_ble_eq_true rfl, Nat.le_of_ble_eq_true rfl⟩ (fun x_177 f_178 H locs hw hP hD hS => ?_)
                obtain ⟨rfl, bx_177, hxp_179⟩ := hw
                obtain ⟨g_182, hfo_181, hbg_182⟩ := un_575 (hG _ ma_2) ka_2
                have hlix_177 := hxp_179 g_182 hfo_181
                exact hcut_102 x_177 (by constructor <;> omega) _ _ hP hS ls (lv_sub hl [0, 1, 2, 3] rfl)
              · skip
                rw [← Int32.toInt_inj, ti_48] at c_173
                refine lv_iconst (v := 0) hx hb dX12_takesRow_86 (by decide) ?_
                refine lv_goto (tgt := 107) hx hb dX12_takesRow_87 (by decide) ?_
                exact hcut_102 0 (by decide) _ _ hP hS ls (lv_sub hl [0, 1, 2, 3] rfl)
            refine lv_icmp_ne (tgt := 55) hx hb dX12_takesRow_48 (by decide) (fun c_183 => ?_) (fun c_183 => ?_)
            · skip
              rw [← Int32.toInt_inj, ti_48] at c_183
              refine lv_aload_n hx hb dX12_takesRow_55 rfl (lv_at hl 2 rfl) ?_
              refine tk_getP (D := (dC, dI)) (ci := 12) (v := .ref a_2) (C := RX12) (T := TX12) (N := 56) hx hb hU inlX12 hown hK hP mo0 hfo_86 rfl 0 (by decide) (hU _ wd_169) (fun _ h9 => h9) rfl dX12_takesRow_56 ?_
              refine lv_aload_n hx hb dX12_takesRow_59 rfl (lv_at hl 2 rfl) ?_
              refine tk_getP (D := (dC, dI)) (ci := 12) (v := .ref a_6) (C := RX12) (T := TX12) (N := 56) hx hb hU inlX12 hown hK hP mo0 hfo_86 rfl 4 (by decide) (hU _ wd_172) (fun _ h9 => h9) rfl dX12_takesRow_60 ?_
              refine lv_iconst (v := 2) hx hb dX12_takesRow_63 (by decide) ?_
              refine lv_iload_n hx hb dX12_takesRow_64 rfl (lv_at hl 0 rfl) ?_
              refine lv_imul hx hb dX12_takesRow_65 ?_
              refine lv_topi (fun x_184 ex_184 => ?_)
              have hx_184 : x_184.toInt = 2 * y_83.toInt := by rw [ex_184, ml_I (by rw [ti_2]; omega) (by rw [ti_2]; omega), ti_2]
              have bx_184 : (0 ≤ x_184.toInt ∧ x_184.toInt ≤ 30) := by constructor <;> omega
              refine tk_ildP hx hb hK hP 0 ma_6 hfo_91 rfl (vp_in_iff.mpr (by constructor <;> omega)) dX12_takesRow_66 ?_
              refine lv_topi (fun x_185 ex_185 => ?_)
              have bx_185 : (0 ≤ x_185.toInt ∧ x_185.toInt ≤ 255) := by rw [ex_185]; exact hbg_92 _
              refine tk_SiP (As := [.ref a_2, .int x_185]) (rest := []) (n := 2) hx hb hml hown hU hN hZ (s_X12_letterIn_a575 l (dC, dI) cI cL cZ cR cG cH Z kd L f_85 hG a_2 ma_2 ka_2 x_185) wd_606 wd_607 wd_5 wd_608 (by decide +kernel) ⟨Nat.le_of_ble_eq_true rfl, Nat.le_of_ble_eq_true rfl⟩ hK hP hD hS rfl hl.1 rfl (Nat.le_of_ble_eq_true rfl) dX12_takesRow_67 ⟨Nat.le_of_ble_eq_true rfl, Nat.le_of_ble_eq_true rfl⟩ (fun x_186 f_187 H locs hw hP hD hS => ?_)
              obtain ⟨rfl, bx_186, hxp_188⟩ := hw
              obtain ⟨g_191, hfo_190, hbg_191⟩ := un_575 (hG _ ma_2) ka_2
              have hlix_186 := hxp_188 g_191 hfo_190
              exact hcut_96 x_186 (by constructor <;> omega) _ _ hP hS ls (lv_sub hl [0, 1, 2] rfl)
            · skip
              rw [← Int32.toInt_inj, ti_48] at c_183
              refine lv_iconst (v := 0) hx hb dX12_takesRow_51 (by decide) ?_
              refine lv_goto (tgt := 70) hx hb dX12_takesRow_52 (by decide) ?_
              exact hcut_96 0 (by decide) _ _ hP hS ls (lv_sub hl [0, 1, 2] rfl)
      exact hloop_82 17 0 (by decide) f_59 hG _ _ hP hS hD hfr0 hrA12 hfA12 hfo_60 (by (try rw [ti_0]) <;> omega) ls hl
    · skip
      rw [← Int32.toInt_inj, ti_0] at c_66
      refine lv_iconst (v := (-1)) hx hb dX12_takesRow_27 (by decide) ?_
      exact W.iret (v := (-1)) hx hb hr (fun t ht hW => ⟨⟨(-1), f_59, rfl, ⟨hG, (by decide), hfr0, hrA12, hfA12, (by intro w5 z5 e5 d5; rw [hfo_1] at e5; rw [hfo_60] at d5; obtain rfl := Option.some.inj e5; obtain rfl := Option.some.inj d5; (try rw [ti_0]) <;> (try rw [ti_m1]) <;> omega)⟩, by rw [ht]; exact hP, va_K.moved hW.alike hK, pl_in hD⟩, hS.F ht⟩) hS.2.2 dX12_takesRow_28
