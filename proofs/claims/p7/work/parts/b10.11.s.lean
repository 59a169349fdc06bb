set_option maxHeartbeats 8000000 in
set_option maxRecDepth 100000 in
theorem s_X12_ofRule_k12_c2_2 (l : Launch) (D : va_G) (cI cL cZ cR cG cH : ClassId) (Z : zT) (kd : Nat → Nat) (L : List Nat) (f : Nat → va_E) (hG : GI (okc cI cL cZ cR cG cH L kd) kd L f) (o0 : Nat) (mo0 : o0 ∈ L) (ko0 : kd o0 = 12) (p1 : Int32) (bp1 : (0 ≤ p1.toInt ∧ p1.toInt ≤ 7)) : mPI l D cI cL cZ cR cG cH Z yX12_ofRule cX12_ofRule 3 (some .int) 0 0 [.ref o0, .int p1, .int 2] L f (fun (r : Int32) (f9 : Nat → va_E) => f = f9 ∧ (0 ≤ r.toInt ∧ r.toInt ≤ 3)) := by
  obtain ⟨dC, dI⟩ := D
  refine Met.ofW (cc := cX12_ofRule) (maxL := 3) (ret := (some .int)) (by decide) rfl ?_
  intro p e s m args below meth c s₁ B hml hv
  obtain ⟨rfl, hP, hK, hD0, hN, hZ⟩ := hv
  have hx := B.exec
  have hb := B.bytes
  have hr := B.returns
  have hU : ∀ w ∈ wsU, w.before _ s = true := fun w h => atoms_spec (ws := wU yX12_ofRule cX12_ofRule 3 (some .int)) B.pre w (List.mem_cons_of_mem _ h)
  have hown : s.vm.findClass RX12 = some m.cls := findClass_of_methodNamed B.named
  have hlocks := B.notSynchronized
  have hD := pl_in hD0
  have hS : va_S (fun q => q ∈ L) s.heap s.heap [] := va_S.rf
  have hl := lv_entry ([.ref o0, .int p1, .int 2]) (n := 3) (Nat.le_of_ble_eq_true rfl)
  rw [lg_entry_eq]
  generalize (lg_sl ([.ref o0, .int p1, .int 2]) ++ List.replicate (3 - (lg_sl ([.ref o0, .int p1, .int 2])).length) Slot.unset).toArray = ls at hl ⊢
  have hl : lv_has ls 3 [(0, .ref o0), (1, .int p1), (2, .int 2)] := hl
  refine lv_aload_n hx hb dX12_ofRule_0 rfl (lv_at hl 0 rfl) ?_
  obtain ⟨a_2, a_3, a_4, v_5, a_6, v_7, v_8, v_9, v_10, v_11, v_12, v_13, v_14, v_15, v_16, a_17, a_18, a_19, a_20, a_21, a_22, a_23, a_24, v_25, v_26, v_27, v_28, v_29, a_30, v_31, a_32, a_33, v_34, v_35, a_36, v_37, a_38, a_39, v_40, v_41, a_42, a_43, a_44, v_45, a_46, a_47, a_48, a_49, a_50, a_51, a_52, a_53, a_54, v_55, v_56, a_57, hfo_1, ⟨ma_2, ka_2⟩, ⟨ma_3, ka_3⟩, ⟨ma_4, ka_4⟩, bv_5, ⟨ma_6, ka_6⟩, bv_7, bv_8, bv_13, bv_14, bv_15, ⟨ma_17, ka_17⟩, ⟨ma_18, ka_18⟩, ⟨ma_19, ka_19⟩, ⟨ma_20, ka_20⟩, ⟨ma_21, ka_21⟩, ⟨ma_22, ka_22⟩, ⟨ma_23, ka_23⟩, ⟨ma_24, ka_24⟩, bv_25, bv_27, bv_29, ⟨ma_30, ka_30⟩, bv_31, ⟨ma_32, ka_32⟩, ⟨ma_33, ka_33⟩, bv_34, ⟨ma_36, ka_36⟩, bv_37, ⟨ma_38, ka_38⟩, ⟨ma_39, ka_39⟩, bv_40, ⟨ma_42, ka_42⟩, ⟨ma_43, ka_43⟩, ⟨ma_44, ka_44⟩, bv_45, ⟨ma_46, ka_46⟩, ⟨ma_47, ka_47⟩, ⟨ma_48, ka_48⟩, ⟨ma_49, ka_49⟩, ⟨ma_50, ka_50⟩, ⟨ma_51, ka_51⟩, ⟨ma_52, ka_52⟩, ⟨ma_53, ka_53⟩, ⟨ma_54, ka_54⟩, bv_55, ⟨ma_57, ka_57⟩⟩ := un_12 (hG _ mo0) ko0
  have bv_9 : ((-2147483648) ≤ v_9.toInt ∧ v_9.toInt ≤ 2147483647) := ⟨i32_lo _, i32_hi _⟩
  have bv_10 : ((-2147483648) ≤ v_10.toInt ∧ v_10.toInt ≤ 2147483647) := ⟨i32_lo _, i32_hi _⟩
  have bv_11 : ((-2147483648) ≤ v_11.toInt ∧ v_11.toInt ≤ 2147483647) := ⟨i32_lo _, i32_hi _⟩
  have bv_12 : ((-2147483648) ≤ v_12.toInt ∧ v_12.toInt ≤ 2147483647) := ⟨i32_lo _, i32_hi _⟩
  have bv_16 : ((-2147483648) ≤ v_16.toInt ∧ v_16.toInt ≤ 2147483647) := ⟨i32_lo _, i32_hi _⟩
  have bv_26 : ((-2147483648) ≤ v_26.toInt ∧ v_26.toInt ≤ 2147483647) := ⟨i32_lo _, i32_hi _⟩
  have bv_28 : ((-2147483648) ≤ v_28.toInt ∧ v_28.toInt ≤ 2147483647) := ⟨i32_lo _, i32_hi _⟩
  have bv_35 : ((-2147483648) ≤ v_35.toInt ∧ v_35.toInt ≤ 2147483647) := ⟨i32_lo _, i32_hi _⟩
  have bv_41 : ((-2147483648) ≤ v_41.toInt ∧ v_41.toInt ≤ 2147483647) := ⟨i32_lo _, i32_hi _⟩
  have bv_56 : ((-2147483648) ≤ v_56.toInt ∧ v_56.toInt ≤ 2147483647) := ⟨i32_lo _, i32_hi _⟩
  refine tk_getP (D := (dC, dI)) (ci := 12) (v := .ref a_2) (C := RX12) (T := TX12) (N := 56) hx hb hU inlX12 hown hK hP mo0 hfo_1 rfl 0 (by decide) (hU _ wd_169) (fun _ h9 => h9) rfl dX12_ofRule_1 ?_
  refine lv_sipush (v := 460) hx hb dX12_ofRule_4 (by decide) ?_
  refine lv_iconst (v := 4) hx hb dX12_ofRule_7 (by decide) ?_
  refine lv_iload_n hx hb dX12_ofRule_8 rfl (lv_at hl 1 rfl) ?_
  refine lv_imul hx hb dX12_ofRule_9 ?_
  refine lv_topi (fun x_58 ex_58 => ?_)
  have hx_58 : x_58.toInt = 4 * p1.toInt := by rw [ex_58, ml_I (by rw [ti_4]; omega) (by rw [ti_4]; omega), ti_4]
  have bx_58 : (0 ≤ x_58.toInt ∧ x_58.toInt ≤ 28) := by constructor <;> omega
  refine lv_iadd hx hb dX12_ofRule_10 ?_
  refine lv_topi (fun x_59 ex_59 => ?_)
  have hx_59 : x_59.toInt = 460 + x_58.toInt := by rw [ex_59, ad_I (by rw [ti_460]; omega) (by rw [ti_460]; omega), ti_460]
  have bx_59 : (460 ≤ x_59.toInt ∧ x_59.toInt ≤ 488) := by constructor <;> omega
  refine lv_iload_n hx hb dX12_ofRule_11 rfl (lv_at hl 2 rfl) ?_
  refine lv_iadd hx hb dX12_ofRule_12 ?_
  refine lv_topi (fun x_60 ex_60 => ?_)
  have hx_60 : x_60.toInt = x_59.toInt + 2 := by rw [ex_60, ad_I (by rw [ti_2]; omega) (by rw [ti_2]; omega), ti_2]
  have bx_60 : (462 ≤ x_60.toInt ∧ x_60.toInt ≤ 490) := by constructor <;> omega
  obtain ⟨g_62, hfo_61, hbg_62⟩ := un_575 (hG _ ma_2) ka_2
  refine tk_ildP hx hb hK hP 0 ma_2 hfo_61 rfl (vp_in_iff.mpr (by constructor <;> omega)) dX12_ofRule_13 ?_
  refine lv_topi (fun x_63 ex_63 => ?_)
  have bx_63 : (0 ≤ x_63.toInt ∧ x_63.toInt ≤ 3) := by have hc9 := cl_I (i := x_60) (by omega); rw [ex_63]; exact hbg_62.2.2.2.2.2.2.2.2.2.2.2.2.2.1 _ (by omega) (by omega) (by omega)
  exact W.iret (v := x_63) hx hb hr (fun t ht hW => ⟨⟨x_63, f, rfl, ⟨rfl, (by constructor <;> omega)⟩, by rw [ht]; exact hP, va_K.moved hW.alike hK, pl_in hD⟩, hS.F ht⟩) hS.2.2 dX12_ofRule_14
set_option maxHeartbeats 8000000 in
set_option maxRecDepth 100000 in
theorem s_X12_ofRule_k12_c3_3 (l : Launch) (D : va_G) (cI cL cZ cR cG cH : ClassId) (Z : zT) (kd : Nat → Nat) (L : List Nat) (f : Nat → va_E) (hG : GI (okc cI cL cZ cR cG cH L kd) kd L f) (o0 : Nat) (mo0 : o0 ∈ L) (ko0 : kd o0 = 12) (p1 : Int32) (bp1 : (0 ≤ p1.toInt ∧ p1.toInt ≤ 7)) : mPI l D cI cL cZ cR cG cH Z yX12_ofRule cX12_ofRule 3 (some .int) 0 0 [.ref o0, .int p1, .int 3] L f (fun (r : Int32) (f9 : Nat → va_E) => f = f9 ∧ (0 ≤ r.toInt ∧ r.toInt ≤ 3)) := by
  obtain ⟨dC, dI⟩ := D
  refine Met.ofW (cc := cX12_ofRule) (maxL := 3) (ret := (some .int)) (by decide) rfl ?_
  intro p e s m args below meth c s₁ B hml hv
  obtain ⟨rfl, hP, hK, hD0, hN, hZ⟩ := hv
  have hx := B.exec
  have hb := B.bytes
  have hr := B.returns
  have hU : ∀ w ∈ wsU, w.before _ s = true := fun w h => atoms_spec (ws := wU yX12_ofRule cX12_ofRule 3 (some .int)) B.pre w (List.mem_cons_of_mem _ h)
  have hown : s.vm.findClass RX12 = some m.cls := findClass_of_methodNamed B.named
  have hlocks := B.notSynchronized
  have hD := pl_in hD0
  have hS : va_S (fun q => q ∈ L) s.heap s.heap [] := va_S.rf
  have hl := lv_entry ([.ref o0, .int p1, .int 3]) (n := 3) (Nat.le_of_ble_eq_true rfl)
  rw [lg_entry_eq]
  generalize (lg_sl ([.ref o0, .int p1, .int 3]) ++ List.replicate (3 - (lg_sl ([.ref o0, .int p1, .int 3])).length) Slot.unset).toArray = ls at hl ⊢
  have hl : lv_has ls 3 [(0, .ref o0), (1, .int p1), (2, .int 3)] := hl
  refine lv_aload_n hx hb dX12_ofRule_0 rfl (lv_at hl 0 rfl) ?_
  obtain ⟨a_2, a_3, a_4, v_5, a_6, v_7, v_8, v_9, v_10, v_11, v_12, v_13, v_14, v_15, v_16, a_17, a_18, a_19, a_20, a_21, a_22, a_23, a_24, v_25, v_26, v_27, v_28, v_29, a_30, v_31, a_32, a_33, v_34, v_35, a_36, v_37, a_38, a_39, v_40, v_41, a_42, a_43, a_44, v_45, a_46, a_47, a_48, a_49, a_50, a_51, a_52, a_53, a_54, v_55, v_56, a_57, hfo_1, ⟨ma_2, ka_2⟩, ⟨ma_3, ka_3⟩, ⟨ma_4, ka_4⟩, bv_5, ⟨ma_6, ka_6⟩, bv_7, bv_8, bv_13, bv_14, bv_15, ⟨ma_17, ka_17⟩, ⟨ma_18, ka_18⟩, ⟨ma_19, ka_19⟩, ⟨ma_20, ka_20⟩, ⟨ma_21, ka_21⟩, ⟨ma_22, ka_22⟩, ⟨ma_23, ka_23⟩, ⟨ma_24, ka_24⟩, bv_25, bv_27, bv_29, ⟨ma_30, ka_30⟩, bv_31, ⟨ma_32, ka_32⟩, ⟨ma_33, ka_33⟩, bv_34, ⟨ma_36, ka_36⟩, bv_37, ⟨ma_38, ka_38⟩, ⟨ma_39, ka_39⟩, bv_40, ⟨ma_42, ka_42⟩, ⟨ma_43, ka_43⟩, ⟨ma_44, ka_44⟩, bv_45, ⟨ma_46, ka_46⟩, ⟨ma_47, ka_47⟩, ⟨ma_48, ka_48⟩, ⟨ma_49, ka_49⟩, ⟨ma_50, ka_50⟩, ⟨ma_51, ka_51⟩, ⟨ma_52, ka_52⟩, ⟨ma_53, ka_53⟩, ⟨ma_54, ka_54⟩, bv_55, ⟨ma_57, ka_57⟩⟩ := un_12 (hG _ mo0) ko0
  have bv_9 : ((-2147483648) ≤ v_9.toInt ∧ v_9.toInt ≤ 2147483647) := ⟨i32_lo _, i32_hi _⟩
  have bv_10 : ((-2147483648) ≤ v_10.toInt ∧ v_10.toInt ≤ 2147483647) := ⟨i32_lo _, i32_hi _⟩
  have bv_11 : ((-2147483648) ≤ v_11.toInt ∧ v_11.toInt ≤ 2147483647) := ⟨i32_lo _, i32_hi _⟩
  have bv_12 : ((-2147483648) ≤ v_12.toInt ∧ v_12.toInt ≤ 2147483647) := ⟨i32_lo _, i32_hi _⟩
  have bv_16 : ((-2147483648) ≤ v_16.toInt ∧ v_16.toInt ≤ 2147483647) := ⟨i32_lo _, i32_hi _⟩
  have bv_26 : ((-2147483648) ≤ v_26.toInt ∧ v_26.toInt ≤ 2147483647) := ⟨i32_lo _, i32_hi _⟩
  have bv_28 : ((-2147483648) ≤ v_28.toInt ∧ v_28.toInt ≤ 2147483647) := ⟨i32_lo _, i32_hi _⟩
  have bv_35 : ((-2147483648) ≤ v_35.toInt ∧ v_35.toInt ≤ 2147483647) := ⟨i32_lo _, i32_hi _⟩
  have bv_41 : ((-2147483648) ≤ v_41.toInt ∧ v_41.toInt ≤ 2147483647) := ⟨i32_lo _, i32_hi _⟩
  have bv_56 : ((-2147483648) ≤ v_56.toInt ∧ v_56.toInt ≤ 2147483647) := ⟨i32_lo _, i32_hi _⟩
  refine tk_getP (D := (dC, dI)) (ci := 12) (v := .ref a_2) (C := RX12) (T := TX12) (N := 56) hx hb hU inlX12 hown hK hP mo0 hfo_1 rfl 0 (by decide) (hU _ wd_169) (fun _ h9 => h9) rfl dX12_ofRule_1 ?_
  refine lv_sipush (v := 460) hx hb dX12_ofRule_4 (by decide) ?_
  refine lv_iconst (v := 4) hx hb dX12_ofRule_7 (by decide) ?_
  refine lv_iload_n hx hb dX12_ofRule_8 rfl (lv_at hl 1 rfl) ?_
  refine lv_imul hx hb dX12_ofRule_9 ?_
  refine lv_topi (fun x_58 ex_58 => ?_)
  have hx_58 : x_58.toInt = 4 * p1.toInt := by rw [ex_58, ml_I (by rw [ti_4]; omega) (by rw [ti_4]; omega), ti_4]
  have bx_58 : (0 ≤ x_58.toInt ∧ x_58.toInt ≤ 28) := by constructor <;> omega
  refine lv_iadd hx hb dX12_ofRule_10 ?_
  refine lv_topi (fun x_59 ex_59 => ?_)
  have hx_59 : x_59.toInt = 460 + x_58.toInt := by rw [ex_59, ad_I (by rw [ti_460]; omega) (by rw [ti_460]; omega), ti_460]
  have bx_59 : (460 ≤ x_59.toInt ∧ x_59.toInt ≤ 488) := by constructor <;> omega
  refine lv_iload_n hx hb dX12_ofRule_11 rfl (lv_at hl 2 rfl) ?_
  refine lv_iadd hx hb dX12_ofRule_12 ?_
  refine lv_topi (fun x_60 ex_60 => ?_)
  have hx_60 : x_60.toInt = x_59.toInt + 3 := by rw [ex_60, ad_I (by rw [ti_3]; omega) (by rw [ti_3]; omega), ti_3]
  have bx_60 : (463 ≤ x_60.toInt ∧ x_60.toInt ≤ 491) := by constructor <;> omega
  obtain ⟨g_62, hfo_61, hbg_62⟩ := un_575 (hG _ ma_2) ka_2
  refine tk_ildP hx hb hK hP 0 ma_2 hfo_61 rfl (vp_in_iff.mpr (by constructor <;> omega)) dX12_ofRule_13 ?_
  refine lv_topi (fun x_63 ex_63 => ?_)
  have bx_63 : (0 ≤ x_63.toInt ∧ x_63.toInt ≤ 3) := by have hc9 := cl_I (i := x_60) (by omega); rw [ex_63]; exact hbg_62.2.2.2.2.2.2.2.2.2.2.2.2.2.2.1 _ (by omega) (by omega) (by omega)
  exact W.iret (v := x_63) hx hb hr (fun t ht hW => ⟨⟨x_63, f, rfl, ⟨rfl, (by constructor <;> omega)⟩, by rw [ht]; exact hP, va_K.moved hW.alike hK, pl_in hD⟩, hS.F ht⟩) hS.2.2 dX12_ofRule_14
set_option maxHeartbeats 8000000 in
set_option maxRecDepth 100000 in
theorem s_X12_ofRule_k12 (l : Launch) (D : va_G) (cI cL cZ cR cG cH : ClassId) (Z : zT) (kd : Nat → Nat) (L : List Nat) (f : Nat → va_E) (hG : GI (okc cI cL cZ cR cG cH L kd) kd L f) (o0 : Nat) (mo0 : o0 ∈ L) (ko0 : kd o0 = 12) (p1 : Int32) (bp1 : (0 ≤ p1.toInt ∧ p1.toInt ≤ 7)) (p2 : Int32) (bp2 : (0 ≤ p2.toInt ∧ p2.toInt ≤ 3)) : mPI l D cI cL cZ cR cG cH Z yX12_ofRule cX12_ofRule 3 (some .int) 0 0 [.ref o0, .int p1, .int p2] L f (fun (r : Int32) (f9 : Nat → va_E) => f = f9 ∧ (0 ≤ r.toInt ∧ r.toInt ≤ 8)) := by
  obtain ⟨dC, dI⟩ := D
  refine Met.ofW (cc := cX12_ofRule) (maxL := 3) (ret := (some .int)) (by decide) rfl ?_
  intro p e s m args below meth c s₁ B hml hv
  obtain ⟨rfl, hP, hK, hD0, hN, hZ⟩ := hv
  have hx := B.exec
  have hb := B.bytes
  have hr := B.returns
  have hU : ∀ w ∈ wsU, w.before _ s = true := fun w h => atoms_spec (ws := wU yX12_ofRule cX12_ofRule 3 (some .int)) B.pre w (List.mem_cons_of_mem _ h)
  have hown : s.vm.findClass RX12 = some m.cls := findClass_of_methodNamed B.named
  have hlocks := B.notSynchronized
  have hD := pl_in hD0
  have hS : va_S (fun q => q ∈ L) s.heap s.heap [] := va_S.rf
  have hl := lv_entry ([.ref o0, .int p1, .int p2]) (n := 3) (Nat.le_of_ble_eq_true rfl)
  rw [lg_entry_eq]
  generalize (lg_sl ([.ref o0, .int p1, .int p2]) ++ List.replicate (3 - (lg_sl ([.ref o0, .int p1, .int p2])).length) Slot.unset).toArray = ls at hl ⊢
  have hl : lv_has ls 3 [(0, .ref o0), (1, .int p1), (2, .int p2)] := hl
  refine lv_aload_n hx hb dX12_ofRule_0 rfl (lv_at hl 0 rfl) ?_
  obtain ⟨a_2, a_3, a_4, v_5, a_6, v_7, v_8, v_9, v_10, v_11, v_12, v_13, v_14, v_15, v_16, a_17, a_18, a_19, a_20, a_21, a_22, a_23, a_24, v_25, v_26, v_27, v_28, v_29, a_30, v_31, a_32, a_33, v_34, v_35, a_36, v_37, a_38, a_39, v_40, v_41, a_42, a_43, a_44, v_45, a_46, a_47, a_48, a_49, a_50, a_51, a_52, a_53, a_54, v_55, v_56, a_57, hfo_1, ⟨ma_2, ka_2⟩, ⟨ma_3, ka_3⟩, ⟨ma_4, ka_4⟩, bv_5, ⟨ma_6, ka_6⟩, bv_7, bv_8, bv_13, bv_14, bv_15, ⟨ma_17, ka_17⟩, ⟨ma_18, ka_18⟩, ⟨ma_19, ka_19⟩, ⟨ma_20, ka_20⟩, ⟨ma_21, ka_21⟩, ⟨ma_22, ka_22⟩, ⟨ma_23, ka_23⟩, ⟨ma_24, ka_24⟩, bv_25, bv_27, bv_29, ⟨ma_30, ka_30⟩, bv_31, ⟨ma_32, ka_32⟩, ⟨ma_33, ka_33⟩, bv_34, ⟨ma_36, ka_36⟩, bv_37, ⟨ma_38, ka_38⟩, ⟨ma_39, ka_39⟩, bv_40, ⟨ma_42, ka_42⟩, ⟨ma_43, ka_43⟩, ⟨ma_44, ka_44⟩, bv_45, ⟨ma_46, ka_46⟩, ⟨ma_47, ka_47⟩, ⟨ma_48, ka_48⟩, ⟨ma_49, ka_49⟩, ⟨ma_50, ka_50⟩, ⟨ma_51, ka_51⟩, ⟨ma_52, ka_52⟩, ⟨ma_53, ka_53⟩, ⟨ma_54, ka_54⟩, bv_55, ⟨ma_57, ka_57⟩⟩ := un_12 (hG _ mo0) ko0
  have bv_9 : ((-2147483648) ≤ v_9.toInt ∧ v_9.toInt ≤ 2147483647) := ⟨i32_lo _, i32_hi _⟩
  have bv_10 : ((-2147483648) ≤ v_10.toInt ∧ v_10.toInt ≤ 2147483647) := ⟨i32_lo _, i32_hi _⟩
  have bv_11 : ((-2147483648) ≤ v_11.toInt ∧ v_11.toInt ≤ 2147483647) := ⟨i32_lo _, i32_hi _⟩
  have bv_12 : ((-2147483648) ≤ v_12.toInt ∧ v_12.toInt ≤ 2147483647) := ⟨i32_lo _, i32_hi _⟩
  have bv_16 : ((-2147483648) ≤ v_16.toInt ∧ v_16.toInt ≤ 2147483647) := ⟨i32_lo _, i32_hi _⟩
  have bv_26 : ((-2147483648) ≤ v_26.toInt ∧ v_26.toInt ≤ 2147483647) := ⟨i32_lo _, i32_hi _⟩
  have bv_28 : ((-2147483648) ≤ v_28.toInt ∧ v_28.toInt ≤ 2147483647) := ⟨i32_lo _, i32_hi _⟩
  have bv_35 : ((-2147483648) ≤ v_35.toInt ∧ v_35.toInt ≤ 2147483647) := ⟨i32_lo _, i32_hi _⟩
  have bv_41 : ((-2147483648) ≤ v_41.toInt ∧ v_41.toInt ≤ 2147483647) := ⟨i32_lo _, i32_hi _⟩
  have bv_56 : ((-2147483648) ≤ v_56.toInt ∧ v_56.toInt ≤ 2147483647) := ⟨i32_lo _, i32_hi _⟩
  refine tk_getP (D := (dC, dI)) (ci := 12) (v := .ref a_2) (C := RX12) (T := TX12) (N := 56) hx hb hU inlX12 hown hK hP mo0 hfo_1 rfl 0 (by decide) (hU _ wd_169) (fun _ h9 => h9) rfl dX12_ofRule_1 ?_
  refine lv_sipush (v := 460) hx hb dX12_ofRule_4 (by decide) ?_
  refine lv_iconst (v := 4) hx hb dX12_ofRule_7 (by decide) ?_
  refine lv_iload_n hx hb dX12_ofRule_8 rfl (lv_at hl 1 rfl) ?_
  refine lv_imul hx hb dX12_ofRule_9 ?_
  refine lv_topi (fun x_58 ex_58 => ?_)
  have hx_58 : x_58.toInt = 4 * p1.toInt := by rw [ex_58, ml_I (by rw [ti_4]; omega) (by rw [ti_4]; omega), ti_4]
  have bx_58 : (0 ≤ x_58.toInt ∧ x_58.toInt ≤ 28) := by constructor <;> omega
  refine lv_iadd hx hb dX12_ofRule_10 ?_
  refine lv_topi (fun x_59 ex_59 => ?_)
  have hx_59 : x_59.toInt = 460 + x_58.toInt := by rw [ex_59, ad_I (by rw [ti_460]; omega) (by rw [ti_460]; omega), ti_460]
  have bx_59 : (460 ≤ x_59.toInt ∧ x_59.toInt ≤ 488) := by constructor <;> omega
  refine lv_iload_n hx hb dX12_ofRule_11 rfl (lv_at hl 2 rfl) ?_
  refine lv_iadd hx hb dX12_ofRule_12 ?_
  refine lv_topi (fun x_60 ex_60 => ?_)
  have hx_60 : x_60.toInt = x_59.toInt + p2.toInt := by rw [ex_60, ad_I (by omega) (by omega)]
  have bx_60 : (460 ≤ x_60.toInt ∧ x_60.toInt ≤ 491) := by constructor <;> omega
  obtain ⟨g_62, hfo_61, hbg_62⟩ := un_575 (hG _ ma_2) ka_2
  refine tk_ildP hx hb hK hP 0 ma_2 hfo_61 rfl (vp_in_iff.mpr (by constructor <;> omega)) dX12_ofRule_13 ?_
  refine lv_topi (fun x_63 ex_63 => ?_)
  have bx_63 : (0 ≤ x_63.toInt ∧ x_63.toInt ≤ 8) := by have hc9 := cl_I (i := x_60) (by omega); rw [ex_63]; exact hbg_62.2.2.2.2.2.2.2.2.2.2.2.2.1 _ (by omega) (by omega) (by omega)
  exact W.iret (v := x_63) hx hb hr (fun t ht hW => ⟨⟨x_63, f, rfl, ⟨rfl, (by constructor <;> omega)⟩, by rw [ht]; exact hP, va_K.moved hW.alike hK, pl_in hD⟩, hS.F ht⟩) hS.2.2 dX12_ofRule_14
set_option maxHeartbeats 8000000 in
set_option maxRecDepth 100000 in
theorem s_X12_itemsOf_k12 (l : Launch) (D : va_G) (cI cL cZ cR cG cH : ClassId) (Z : zT) (kd : Nat → Nat) (L : List Nat) (f : Nat → va_E) (hG : GI (okc cI cL cZ cR cG cH L kd) kd L f) (o0 : Nat) (mo0 : o0 ∈ L) (ko0 : kd o0 = 12) (p1 : Int32) (bp1 : (0 ≤ p1.toInt ∧ p1.toInt ≤ 23)) (p2 : Int32) (bp2 : (0 ≤ p2.toInt ∧ p2.toInt ≤ 1)) : mPI l D cI cL cZ cR cG cH Z yX12_itemsOf cX12_itemsOf 3 (some .int) 0 0 [.ref o0, .int p1, .int p2] L f (fun (r : Int32) (f9 : Nat → va_E) => f = f9 ∧ (0 ≤ r.toInt ∧ r.toInt ≤ 5)) := by
  obtain ⟨dC, dI⟩ := D
  refine Met.ofW (cc := cX12_itemsOf) (maxL := 3) (ret := (some .int)) (by decide) rfl ?_
  intro p e s m args below meth c s₁ B hml hv
  obtain ⟨rfl, hP, hK, hD0, hN, hZ⟩ := hv
  have hx := B.exec
  have hb := B.bytes
  have hr := B.returns
  have hU : ∀ w ∈ wsU, w.before _ s = true := fun w h => atoms_spec (ws := wU yX12_itemsOf cX12_itemsOf 3 (some .int)) B.pre w (List.mem_cons_of_mem _ h)
  have hown : s.vm.findClass RX12 = some m.cls := findClass_of_methodNamed B.named
  have hlocks := B.notSynchronized
  have hD := pl_in hD0
  have hS : va_S (fun q => q ∈ L) s.heap s.heap [] := va_S.rf
  have hl := lv_entry ([.ref o0, .int p1, .int p2]) (n := 3) (Nat.le_of_ble_eq_true rfl)
  rw [lg_entry_eq]
  generalize (lg_sl ([.ref o0, .int p1, .int p2]) ++ List.replicate (3 - (lg_sl ([.ref o0, .int p1, .int p2])).length) Slot.unset).toArray = ls at hl ⊢
  have hl : lv_has ls 3 [(0, .ref o0), (1, .int p1), (2, .int p2)] := hl
  refine lv_aload_n hx hb dX12_itemsOf_0 rfl (lv_at hl 0 rfl) ?_
  obtain ⟨a_2, a_3, a_4, v_5, a_6, v_7, v_8, v_9, v_10, v_11, v_12, v_13, v_14, v_15, v_16, a_17, a_18, a_19, a_20, a_21, a_22, a_23, a_24, v_25, v_26, v_27, v_28, v_29, a_30, v_31, a_32, a_33, v_34, v_35, a_36, v_37, a_38, a_39, v_40, v_41, a_42, a_43, a_44, v_45, a_46, a_47, a_48, a_49, a_50, a_51, a_52, a_53, a_54, v_55, v_56, a_57, hfo_1, ⟨ma_2, ka_2⟩, ⟨ma_3, ka_3⟩, ⟨ma_4, ka_4⟩, bv_5, ⟨ma_6, ka_6⟩, bv_7, bv_8, bv_13, bv_14, bv_15, ⟨ma_17, ka_17⟩, ⟨ma_18, ka_18⟩, ⟨ma_19, ka_19⟩, ⟨ma_20, ka_20⟩, ⟨ma_21, ka_21⟩, ⟨ma_22, ka_22⟩, ⟨ma_23, ka_23⟩, ⟨ma_24, ka_24⟩, bv_25, bv_27, bv_29, ⟨ma_30, ka_30⟩, bv_31, ⟨ma_32, ka_32⟩, ⟨ma_33, ka_33⟩, bv_34, ⟨ma_36, ka_36⟩, bv_37, ⟨ma_38, ka_38⟩, ⟨ma_39, ka_39⟩, bv_40, ⟨ma_42, ka_42⟩, ⟨ma_43, ka_43⟩, ⟨ma_44, ka_44⟩, bv_45, ⟨ma_46, ka_46⟩, ⟨ma_47, ka_47⟩, ⟨ma_48, ka_48⟩, ⟨ma_49, ka_49⟩, ⟨ma_50, ka_50⟩, ⟨ma_51, ka_51⟩, ⟨ma_52, ka_52⟩, ⟨ma_53, ka_53⟩, ⟨ma_54, ka_54⟩, bv_55, ⟨ma_57, ka_57⟩⟩ := un_12 (hG _ mo0) ko0
  have bv_9 : ((-2147483648) ≤ v_9.toInt ∧ v_9.toInt ≤ 2147483647) := ⟨i32_lo _, i32_hi _⟩
  have bv_10 : ((-2147483648) ≤ v_10.toInt ∧ v_10.toInt ≤ 2147483647) := ⟨i32_lo _, i32_hi _⟩
  have bv_11 : ((-2147483648) ≤ v_11.toInt ∧ v_11.toInt ≤ 2147483647) := ⟨i32_lo _, i32_hi _⟩
  have bv_12 : ((-2147483648) ≤ v_12.toInt ∧ v_12.toInt ≤ 2147483647) := ⟨i32_lo _, i32_hi _⟩
  have bv_16 : ((-2147483648) ≤ v_16.toInt ∧ v_16.toInt ≤ 2147483647) := ⟨i32_lo _, i32_hi _⟩
  have bv_26 : ((-2147483648) ≤ v_26.toInt ∧ v_26.toInt ≤ 2147483647) := ⟨i32_lo _, i32_hi _⟩
  have bv_28 : ((-2147483648) ≤ v_28.toInt ∧ v_28.toInt ≤ 2147483647) := ⟨i32_lo _, i32_hi _⟩
  have bv_35 : ((-2147483648) ≤ v_35.toInt ∧ v_35.toInt ≤ 2147483647) := ⟨i32_lo _, i32_hi _⟩
  have bv_41 : ((-2147483648) ≤ v_41.toInt ∧ v_41.toInt ≤ 2147483647) := ⟨i32_lo _, i32_hi _⟩
  have bv_56 : ((-2147483648) ≤ v_56.toInt ∧ v_56.toInt ≤ 2147483647) := ⟨i32_lo _, i32_hi _⟩
  refine tk_getP (D := (dC, dI)) (ci := 12) (v := .ref a_2) (C := RX12) (T := TX12) (N := 56) hx hb hU inlX12 hown hK hP mo0 hfo_1 rfl 0 (by decide) (hU _ wd_169) (fun _ h9 => h9) rfl dX12_itemsOf_1 ?_
  refine lv_sipush (v := 500) hx hb dX12_itemsOf_4 (by decide) ?_
  refine lv_iconst (v := 4) hx hb dX12_itemsOf_7 (by decide) ?_
  refine lv_iload_n hx hb dX12_itemsOf_8 rfl (lv_at hl 1 rfl) ?_
  refine lv_imul hx hb dX12_itemsOf_9 ?_
  refine lv_topi (fun x_58 ex_58 => ?_)
  have hx_58 : x_58.toInt = 4 * p1.toInt := by rw [ex_58, ml_I (by rw [ti_4]; omega) (by rw [ti_4]; omega), ti_4]
  have bx_58 : (0 ≤ x_58.toInt ∧ x_58.toInt ≤ 92) := by constructor <;> omega
  refine lv_iadd hx hb dX12_itemsOf_10 ?_
  refine lv_topi (fun x_59 ex_59 => ?_)
  have hx_59 : x_59.toInt = 500 + x_58.toInt := by rw [ex_59, ad_I (by rw [ti_500]; omega) (by rw [ti_500]; omega), ti_500]
  have bx_59 : (500 ≤ x_59.toInt ∧ x_59.toInt ≤ 592) := by constructor <;> omega
  refine lv_iconst (v := 2) hx hb dX12_itemsOf_11 (by decide) ?_
  refine lv_iadd hx hb dX12_itemsOf_12 ?_
  refine lv_topi (fun x_60 ex_60 => ?_)
  have hx_60 : x_60.toInt = x_59.toInt + 2 := by rw [ex_60, ad_I (by rw [ti_2]; omega) (by rw [ti_2]; omega), ti_2]
  have bx_60 : (502 ≤ x_60.toInt ∧ x_60.toInt ≤ 594) := by constructor <;> omega
  refine lv_iload_n hx hb dX12_itemsOf_13 rfl (lv_at hl 2 rfl) ?_
  refine lv_iadd hx hb dX12_itemsOf_14 ?_
  refine lv_topi (fun x_61 ex_61 => ?_)
  have hx_61 : x_61.toInt = x_60.toInt + p2.toInt := by rw [ex_61, ad_I (by omega) (by omega)]
  have bx_61 : (502 ≤ x_61.toInt ∧ x_61.toInt ≤ 595) := by constructor <;> omega
  obtain ⟨g_63, hfo_62, hbg_63⟩ := un_575 (hG _ ma_2) ka_2
  refine tk_ildP hx hb hK hP 0 ma_2 hfo_62 rfl (vp_in_iff.mpr (by constructor <;> omega)) dX12_itemsOf_15 ?_
  refine lv_topi (fun x_64 ex_64 => ?_)
  have bx_64 : (0 ≤ x_64.toInt ∧ x_64.toInt ≤ 5) := by have hc9 := cl_I (i := x_61) (by omega); rw [ex_64]; exact hbg_63.2.2.2.2.2.2.2.2.2.2.2.2.2.2.2 _ (by omega) (by omega) (by omega)
  exact W.iret (v := x_64) hx hb hr (fun t ht hW => ⟨⟨x_64, f, rfl, ⟨rfl, (by constructor <;> omega)⟩, by rw [ht]; exact hP, va_K.moved hW.alike hK, pl_in hD⟩, hS.F ht⟩) hS.2.2 dX12_itemsOf_16
set_option maxHeartbeats 8000000 in
set_option maxRecDepth 100000 in
theorem s_X12_isAnchored_k12 (l : Launch) (D : va_G) (cI cL cZ cR cG cH : ClassId) (Z : zT) (kd : Nat → Nat) (L : List Nat) (f : Nat → va_E) (hG : GI (okc cI cL cZ cR cG cH L kd) kd L f) (o0 : Nat) (mo0 : o0 ∈ L) (ko0 : kd o0 = 12) (p1 : Int32) (bp1 : (0 ≤ p1.toInt ∧ p1.toInt ≤ 23)) (p2 : Int32) (bp2 : (0 ≤ p2.toInt ∧ p2.toInt ≤ 1)) : mPI l D cI cL cZ cR cG cH Z yX12_isAnchored cX12_isAnchored 3 (some .boolean) 0 0 [.ref o0, .int p1, .int p2] L f (fun (r : Int32) (f9 : Nat → va_E) => f = f9 ∧ (0 ≤ r.toInt ∧ r.toInt ≤ 1)) := by
  obtain ⟨dC, dI⟩ := D
  refine Met.ofW (cc := cX12_isAnchored) (maxL := 3) (ret := (some .boolean)) (by decide) rfl ?_
  intro p e s m args below meth c s₁ B hml hv
  obtain ⟨rfl, hP, hK, hD0, hN, hZ⟩ := hv
  have hx := B.exec
  have hb := B.bytes
  have hr := B.returns
  have hU : ∀ w ∈ wsU, w.before _ s = true := fun w h => atoms_spec (ws := wU yX12_isAnchored cX12_isAnchored 3 (some .boolean)) B.pre w (List.mem_cons_of_mem _ h)
  have hown : s.vm.findClass RX12 = some m.cls := findClass_of_methodNamed B.named
  have hlocks := B.notSynchronized
  have hD := pl_in hD0
  have hS : va_S (fun q => q ∈ L) s.heap s.heap [] := va_S.rf
  have hl := lv_entry ([.ref o0, .int p1, .int p2]) (n := 3) (Nat.le_of_ble_eq_true rfl)
  rw [lg_entry_eq]
  generalize (lg_sl ([.ref o0, .int p1, .int p2]) ++ List.replicate (3 - (lg_sl ([.ref o0, .int p1, .int p2])).length) Slot.unset).toArray = ls at hl ⊢
  have hl : lv_has ls 3 [(0, .ref o0), (1, .int p1), (2, .int p2)] := hl
  refine lv_aload_n hx hb dX12_isAnchored_0 rfl (lv_at hl 0 rfl) ?_
  obtain ⟨a_2, a_3, a_4, v_5, a_6, v_7, v_8, v_9, v_10, v_11, v_12, v_13, v_14, v_15, v_16, a_17, a_18, a_19, a_20, a_21, a_22, a_23, a_24, v_25, v_26, v_27, v_28, v_29, a_30, v_31, a_32, a_33, v_34, v_35, a_36, v_37, a_38, a_39, v_40, v_41, a_42, a_43, a_44, v_45, a_46, a_47, a_48, a_49, a_50, a_51, a_52, a_53, a_54, v_55, v_56, a_57, hfo_1, ⟨ma_2, ka_2⟩, ⟨ma_3, ka_3⟩, ⟨ma_4, ka_4⟩, bv_5, ⟨ma_6, ka_6⟩, bv_7, bv_8, bv_13, bv_14, bv_15, ⟨ma_17, ka_17⟩, ⟨ma_18, ka_18⟩, ⟨ma_19, ka_19⟩, ⟨ma_20, ka_20⟩, ⟨ma_21, ka_21⟩, ⟨ma_22, ka_22⟩, ⟨ma_23, ka_23⟩, ⟨ma_24, ka_24⟩, bv_25, bv_27, bv_29, ⟨ma_30, ka_30⟩, bv_31, ⟨ma_32, ka_32⟩, ⟨ma_33, ka_33⟩, bv_34, ⟨ma_36, ka_36⟩, bv_37, ⟨ma_38, ka_38⟩, ⟨ma_39, ka_39⟩, bv_40, ⟨ma_42, ka_42⟩, ⟨ma_43, ka_43⟩, ⟨ma_44, ka_44⟩, bv_45, ⟨ma_46, ka_46⟩, ⟨ma_47, ka_47⟩, ⟨ma_48, ka_48⟩, ⟨ma_49, ka_49⟩, ⟨ma_50, ka_50⟩, ⟨ma_51, ka_51⟩, ⟨ma_52, ka_52⟩, ⟨ma_53, ka_53⟩, ⟨ma_54, ka_54⟩, bv_55, ⟨ma_57, ka_57⟩⟩ := un_12 (hG _ mo0) ko0
  have bv_9 : ((-2147483648) ≤ v_9.toInt ∧ v_9.toInt ≤ 2147483647) := ⟨i32_lo _, i32_hi _⟩
  have bv_10 : ((-2147483648) ≤ v_10.toInt ∧ v_10.toInt ≤ 2147483647) := ⟨i32_lo _, i32_hi _⟩
  have bv_11 : ((-2147483648) ≤ v_11.toInt ∧ v_11.toInt ≤ 2147483647) := ⟨i32_lo _, i32_hi _⟩
  have bv_12 : ((-2147483648) ≤ v_12.toInt ∧ v_12.toInt ≤ 2147483647) := ⟨i32_lo _, i32_hi _⟩
  have bv_16 : ((-2147483648) ≤ v_16.toInt ∧ v_16.toInt ≤ 2147483647) := ⟨i32_lo _, i32_hi _⟩
  have bv_26 : ((-2147483648) ≤ v_26.toInt ∧ v_26.toInt ≤ 2147483647) := ⟨i32_lo _, i32_hi _⟩
  have bv_28 : ((-2147483648) ≤ v_28.toInt ∧ v_28.toInt ≤ 2147483647) := ⟨i32_lo _, i32_hi _⟩
  have bv_35 : ((-2147483648) ≤ v_35.toInt ∧ v_35.toInt ≤ 2147483647) := ⟨i32_lo _, i32_hi _⟩
  have bv_41 : ((-2147483648) ≤ v_41.toInt ∧ v_41.toInt ≤ 2147483647) := ⟨i32_lo _, i32_hi _⟩
  have bv_56 : ((-2147483648) ≤ v_56.toInt ∧ v_56.toInt ≤ 2147483647) := ⟨i32_lo _, i32_hi _⟩
  refine tk_getP (D := (dC, dI)) (ci := 12) (v := .ref a_2) (C := RX12) (T := TX12) (N := 56) hx hb hU inlX12 hown hK hP mo0 hfo_1 rfl 0 (by decide) (hU _ wd_169) (fun _ h9 => h9) rfl dX12_isAnchored_1 ?_
  refine lv_sipush (v := 500) hx hb dX12_isAnchored_4 (by decide) ?_
  refine lv_iconst (v := 4) hx hb dX12_isAnchored_7 (by decide) ?_
  refine lv_iload_n hx hb dX12_isAnchored_8 rfl (lv_at hl 1 rfl) ?_
  refine lv_imul hx hb dX12_isAnchored_9 ?_
  refine lv_topi (fun x_58 ex_58 => ?_)
  have hx_58 : x_58.toInt = 4 * p1.toInt := by rw [ex_58, ml_I (by rw [ti_4]; omega) (by rw [ti_4]; omega), ti_4]
  have bx_58 : (0 ≤ x_58.toInt ∧ x_58.toInt ≤ 92) := by constructor <;> omega
  refine lv_iadd hx hb dX12_isAnchored_10 ?_
  refine lv_topi (fun x_59 ex_59 => ?_)
  have hx_59 : x_59.toInt = 500 + x_58.toInt := by rw [ex_59, ad_I (by rw [ti_500]; omega) (by rw [ti_500]; omega), ti_500]
  have bx_59 : (500 ≤ x_59.toInt ∧ x_59.toInt ≤ 592) := by constructor <;> omega
  refine lv_iload_n hx hb dX12_isAnchored_11 rfl (lv_at hl 2 rfl) ?_
  refine lv_iadd hx hb dX12_isAnchored_12 ?_
  refine lv_topi (fun x_60 ex_60 => ?_)
  have hx_60 : x_60.toInt = x_59.toInt + p2.toInt := by rw [ex_60, ad_I (by omega) (by omega)]
  have bx_60 : (500 ≤ x_60.toInt ∧ x_60.toInt ≤ 593) := by constructor <;> omega
  obtain ⟨g_62, hfo_61, hbg_62⟩ := un_575 (hG _ ma_2) ka_2
  refine tk_ildP hx hb hK hP 0 ma_2 hfo_61 rfl (vp_in_iff.mpr (by constructor <;> omega)) dX12_isAnchored_13 ?_
  refine lv_topi (fun x_63 ex_63 => ?_)
  have bx_63 : (0 ≤ x_63.toInt ∧ x_63.toInt ≤ 5) := by have hc9 := cl_I (i := x_60) (by omega); rw [ex_63]; exact hbg_62.2.2.2.2.2.2.2.2.2.2.2.2.2.2.2 _ (by omega) (by omega) (by omega)
  refine lv_iconst (v := 1) hx hb dX12_isAnchored_14 (by decide) ?_
  refine lv_icmp_ne (tgt := 22) hx hb dX12_isAnchored_15 (by decide) (fun c_64 => ?_) (fun c_64 => ?_)
  · skip
    rw [← Int32.toInt_inj, ti_1] at c_64
    refine lv_iconst (v := 0) hx hb dX12_isAnchored_22 (by decide) ?_
    exact W.zret (v := 0) (ty := .boolean) hx hb hr rfl (fun t ht hW => ⟨⟨0, f, rfl, ⟨rfl, (by decide)⟩, by rw [ht]; exact hP, va_K.moved hW.alike hK, pl_in hD⟩, hS.F ht⟩) hS.2.2 dX12_isAnchored_23
  · skip
    rw [← Int32.toInt_inj, ti_1] at c_64
    refine lv_iconst (v := 1) hx hb dX12_isAnchored_18 (by decide) ?_
    refine lv_goto (tgt := 23) hx hb dX12_isAnchored_19 (by decide) ?_
    exact W.zret (v := 1) (ty := .boolean) hx hb hr rfl (fun t ht hW => ⟨⟨1, f, rfl, ⟨rfl, (by decide)⟩, by rw [ht]; exact hP, va_K.moved hW.alike hK, pl_in hD⟩, hS.F ht⟩) hS.2.2 dX12_isAnchored_23
set_option maxHeartbeats 8000000 in
set_option maxRecDepth 100000 in
theorem s_X12_closed_k12 (l : Launch) (D : va_G) (cI cL cZ cR cG cH : ClassId) (Z : zT) (kd : Nat → Nat) (L : List Nat) (f : Nat → va_E) (hG : GI (okc cI cL cZ cR cG cH L kd) kd L f) (o0 : Nat) (mo0 : o0 ∈ L) (ko0 : kd o0 = 12) (p1 : Int32) (bp1 : (0 ≤ p1.toInt ∧ p1.toInt ≤ 23)) (p2 : Int32) (bp2 : (0 ≤ p2.toInt ∧ p2.toInt ≤ 1)) (p3 : Int32) (bp3 : (0 ≤ p3.toInt ∧ p3.toInt ≤ 63)) : mPI l D cI cL cZ cR cG cH Z yX12_closed cX12_closed 6 (some .int) 1 22 [.ref o0, .int p1, .int p2, .int p3] L f (fun (r : Int32) (f9 : Nat → va_E) => f = f9 ∧ (0 ≤ r.toInt ∧ r.toInt ≤ 63)) := by
  obtain ⟨dC, dI⟩ := D
  refine Met.ofW (cc := cX12_closed) (maxL := 6) (ret := (some .int)) (by decide) rfl ?_
  intro p e s m args below meth c s₁ B hml hv
  obtain ⟨rfl, hP, hK, hD0, hN, hZ⟩ := hv
  have hx := B.exec
  have hb := B.bytes
  have hr := B.returns
  have hU : ∀ w ∈ wsU, w.before _ s = true := fun w h => atoms_spec (ws := wU yX12_closed cX12_closed 6 (some .int)) B.pre w (List.mem_cons_of_mem _ h)
  have hown : s.vm.findClass RX12 = some m.cls := findClass_of_methodNamed B.named
  have hlocks := B.notSynchronized
  have hD := pl_in hD0
  have hS : va_S (fun q => q ∈ L) s.heap s.heap [] := va_S.rf
  have hl := lv_entry ([.ref o0, .int p1, .int p2, .int p3]) (n := 6) (Nat.le_of_ble_eq_true rfl)
  rw [lg_entry_eq]
  generalize (lg_sl ([.ref o0, .int p1, .int p2, .int p3]) ++ List.replicate (6 - (lg_sl ([.ref o0, .int p1, .int p2, .int p3])).length) Slot.unset).toArray = ls at hl ⊢
  have hl : lv_has ls 6 [(0, .ref o0), (1, .int p1), (2, .int p2), (3, .int p3)] := hl
  refine lv_iload_n hx hb dX12_closed_0 rfl (lv_at hl 3 rfl) ?_
  refine lv_istore (lv' := [(4, .int p3), (0, .ref o0), (1, .int p1), (2, .int p2), (3, .int p3)]) hx hb dX12_closed_1 hl (by decide) rfl (fun ls hl => ?_)
  refine lv_iconst (v := 0) hx hb dX12_closed_3 (by decide) ?_
  refine lv_istore (lv' := [(5, .int 0), (4, .int p3), (0, .ref o0), (1, .int p1), (2, .int p2), (3, .int p3)]) hx hb dX12_closed_4 hl (by decide) rfl (fun ls hl => ?_)
  have hloop_16 : ∀ (n : Nat), ∀ (y_17 : Int32), (0 ≤ y_17.toInt ∧ y_17.toInt ≤ 5) → ∀ (y_18 : Int32), (0 ≤ y_18.toInt ∧ y_18.toInt ≤ 63) → ∀ (H : Heap) (locs : List Loc), va_P (dC, dI) vwCl (va_pl L f) H → va_S (fun q => q ∈ L) s.heap H locs → 5 - y_17.toInt < (n : Int) → ∀ (ls : Array Slot), lv_has ls 6 [(5, .int y_17), (4, .int y_18), (0, .ref o0), (1, .int p1), (2, .int p2), (3, .int p3)] → W p l e (headSpec (wU yX12_closed cX12_closed 6 (some .int)) { frames := 1, cells := 0, slots := 0, locals := 22 }).room s m [.ref o0, .int p1, .int p2, .int p3].toArray below meth c H locs 0 0 (MQ below (va_Qi (fun (r : Int32) (f9 : Nat → va_E) => f = f9 ∧ (0 ≤ r.toInt ∧ r.toInt ≤ 63)) (qP (dC, dI) cI cL cZ cR cG cH L) (fun q => q ∈ L)) [.ref o0, .int p1, .int p2, .int p3].toArray s 0 0 (fun q => q ∈ L)) (F0 m 6 ls []) := by
    intro n
    induction n with
    | zero => intro y_17 by_17 y_18 by_18 H locs hP hS hmuhloop_16 ls hl; exfalso; omega
    | succ n ih_hloop_16 =>
      intro y_17 by_17 y_18 by_18 H locs hP hS hmuhloop_16 ls hl
      refine lv_iload hx hb dX12_closed_6 (lv_at hl 0 rfl) ?_
      refine lv_aload_n hx hb dX12_closed_8 rfl (lv_at hl 2 rfl) ?_
      refine lv_iload_n hx hb dX12_closed_9 rfl (lv_at hl 3 rfl) ?_
      refine lv_iload_n hx hb dX12_closed_10 rfl (lv_at hl 4 rfl) ?_
      obtain ⟨a_21, a_22, a_23, v_24, a_25, v_26, v_27, v_28, v_29, v_30, v_31, v_32, v_33, v_34, v_35, a_36, a_37, a_38, a_39, a_40, a_41, a_42, a_43, v_44, v_45, v_46, v_47, v_48, a_49, v_50, a_51, a_52, v_53, v_54, a_55, v_56, a_57, a_58, v_59, v_60, a_61, a_62, a_63, v_64, a_65, a_66, a_67, a_68, a_69, a_70, a_71, a_72, a_73, v_74, v_75, a_76, hfo_20, ⟨ma_21, ka_21⟩, ⟨ma_22, ka_22⟩, ⟨ma_23, ka_23⟩, bv_24, ⟨ma_25, ka_25⟩, bv_26, bv_27, bv_32, bv_33, bv_34, ⟨ma_36, ka_36⟩, ⟨ma_37, ka_37⟩, ⟨ma_38, ka_38⟩, ⟨ma_39, ka_39⟩, ⟨ma_40, ka_40⟩, ⟨ma_41, ka_41⟩, ⟨ma_42, ka_42⟩, ⟨ma_43, ka_43⟩, bv_44, bv_46, bv_48, ⟨ma_49, ka_49⟩, bv_50, ⟨ma_51, ka_51⟩, ⟨ma_52, ka_52⟩, bv_53, ⟨ma_55, ka_55⟩, bv_56, ⟨ma_57, ka_57⟩, ⟨ma_58, ka_58⟩, bv_59, ⟨ma_61, ka_61⟩, ⟨ma_62, ka_62⟩, ⟨ma_63, ka_63⟩, bv_64, ⟨ma_65, ka_65⟩, ⟨ma_66, ka_66⟩, ⟨ma_67, ka_67⟩, ⟨ma_68, ka_68⟩, ⟨ma_69, ka_69⟩, ⟨ma_70, ka_70⟩, ⟨ma_71, ka_71⟩, ⟨ma_72, ka_72⟩, ⟨ma_73, ka_73⟩, bv_74, ⟨ma_76, ka_76⟩⟩ := un_12 (hG _ mo0) ko0
      have bv_28 : ((-2147483648) ≤ v_28.toInt ∧ v_28.toInt ≤ 2147483647) := ⟨i32_lo _, i32_hi _⟩
      have bv_29 : ((-2147483648) ≤ v_29.toInt ∧ v_29.toInt ≤ 2147483647) := ⟨i32_lo _, i32_hi _⟩
      have bv_30 : ((-2147483648) ≤ v_30.toInt ∧ v_30.toInt ≤ 2147483647) := ⟨i32_lo _, i32_hi _⟩
      have bv_31 : ((-2147483648) ≤ v_31.toInt ∧ v_31.toInt ≤ 2147483647) := ⟨i32_lo _, i32_hi _⟩
      have bv_35 : ((-2147483648) ≤ v_35.toInt ∧ v_35.toInt ≤ 2147483647) := ⟨i32_lo _, i32_hi _⟩
      have bv_45 : ((-2147483648) ≤ v_45.toInt ∧ v_45.toInt ≤ 2147483647) := ⟨i32_lo _, i32_hi _⟩
      have bv_47 : ((-2147483648) ≤ v_47.toInt ∧ v_47.toInt ≤ 2147483647) := ⟨i32_lo _, i32_hi _⟩
      have bv_54 : ((-2147483648) ≤ v_54.toInt ∧ v_54.toInt ≤ 2147483647) := ⟨i32_lo _, i32_hi _⟩
      have bv_60 : ((-2147483648) ≤ v_60.toInt ∧ v_60.toInt ≤ 2147483647) := ⟨i32_lo _, i32_hi _⟩
      have bv_75 : ((-2147483648) ≤ v_75.toInt ∧ v_75.toInt ≤ 2147483647) := ⟨i32_lo _, i32_hi _⟩
      refine tk_ViP (As := [.int p1, .int p2]) (rest := [.int y_17]) (n := 2) hx hb hml hown hU hN hZ (s_X12_itemsOf_k12 l (dC, dI) cI cL cZ cR cG cH Z kd L f hG o0 mo0 ko0 p1 (by constructor <;> omega) p2 (by constructor <;> omega)) wd_882 wd_883 wd_884 wd_5 wd_885 (by decide +kernel) ⟨Nat.le_of_ble_eq_true rfl, Nat.le_of_ble_eq_true rfl⟩ hK hP hD hS mo0 hfo_20 12 rfl rfl rfl hl.1 rfl (Nat.le_of_ble_eq_true rfl) dX12_closed_11 ⟨Nat.le_of_ble_eq_true rfl, Nat.le_of_ble_eq_true rfl⟩ (fun x_77 f_78 H locs hw hP hD hS => ?_)
      obtain ⟨rfl, bx_77⟩ := hw
      refine lv_icmp_ge (tgt := 71) hx hb dX12_closed_14 (by decide) (fun c_80 => ?_) (fun c_80 => ?_)
      · skip
        rw [Int32.le_iff_toInt_le] at c_80
        refine lv_iload hx hb dX12_closed_71 (lv_at hl 1 rfl) ?_
        exact W.iret (v := y_18) hx hb hr (fun t ht hW => ⟨⟨y_18, f, rfl, ⟨rfl, (by constructor <;> omega)⟩, by rw [ht]; exact hP, va_K.moved hW.alike hK, pl_in hD⟩, hS.F ht⟩) hS.2.2 dX12_closed_73
      · skip
        rw [Int32.le_iff_toInt_le] at c_80
        refine lv_iload hx hb dX12_closed_17 (lv_at hl 1 rfl) ?_
        refine lv_iload hx hb dX12_closed_19 (lv_at hl 0 rfl) ?_
        refine lv_ishr hx hb dX12_closed_21 ?_
        refine lv_topi (fun x_81 ex_81 => ?_)
        have bx_81 : ((-2147483648) ≤ x_81.toInt ∧ x_81.toInt ≤ 2147483647) := ⟨i32_lo _, i32_hi _⟩
        refine lv_iconst (v := 1) hx hb dX12_closed_22 (by decide) ?_
        refine lv_iand hx hb dX12_closed_23 ?_
        refine lv_topi (fun x_82 ex_82 => ?_)
        have bx_82 : (0 ≤ x_82.toInt ∧ x_82.toInt ≤ 1) := by rw [ex_82]; have h8 := an_C x_81 (m := 1) (by decide); rw [ti_1] at h8; exact h8
        refine lv_iconst (v := 1) hx hb dX12_closed_24 (by decide) ?_
        have hcut_84 : ∀ (y_83 : Int32), (0 ≤ y_83.toInt ∧ y_83.toInt ≤ 63) → ∀ (ls : Array Slot), lv_has ls 6 [(5, .int y_17), (4, .int y_83), (0, .ref o0), (1, .int p1), (2, .int p2), (3, .int p3)] → W p l e (headSpec (wU yX12_closed cX12_closed 6 (some .int)) { frames := 1, cells := 0, slots := 0, locals := 22 }).room s m [.ref o0, .int p1, .int p2, .int p3].toArray below meth c H locs 0 0 (MQ below (va_Qi (fun (r : Int32) (f9 : Nat → va_E) => f = f9 ∧ (0 ≤ r.toInt ∧ r.toInt ≤ 63)) (qP (dC, dI) cI cL cZ cR cG cH L) (fun q => q ∈ L)) [.ref o0, .int p1, .int p2, .int p3].toArray s 0 0 (fun q => q ∈ L)) (F0 m 65 ls []) := by
          intro y_83 by_83 ls hl
          obtain ⟨x_85, ex_85⟩ : ∃ y : Int32, y_17 + 1 = y := ⟨_, rfl⟩
          have hx_85 : x_85.toInt = y_17.toInt + 1 := by rw [← ex_85, ad_I (by rw [ti_1]; omega) (by rw [ti_1]; omega), ti_1]
          have bx_85 : (1 ≤ x_85.toInt ∧ x_85.toInt ≤ 5) := by constructor <;> omega
          refine lv_iinc (v := x_85) (lv' := [(5, .int x_85), (4, .int y_83), (0, .ref o0), (1, .int p1), (2, .int p2), (3, .int p3)]) hx hb dX12_closed_65 hl (k := 0) rfl ex_85 (by decide) rfl (fun ls hl => ?_)
          refine lv_goto (tgt := 6) hx hb dX12_closed_68 (by decide) ?_
          exact ih_hloop_16 x_85 (by constructor <;> omega) y_83 (by constructor <;> omega) _ _ hP hS (by omega) ls (lv_sub hl [0, 1, 2, 3, 4, 5] rfl)
        refine lv_icmp_ne (tgt := 65) hx hb dX12_closed_25 (by decide) (fun c_86 => ?_) (fun c_86 => ?_)
        · skip
          rw [← Int32.toInt_inj, ti_1] at c_86
          exact hcut_84 y_18 (by constructor <;> omega) ls (lv_sub hl [0, 1, 2, 3, 4, 5] rfl)
        · skip
          rw [← Int32.toInt_inj, ti_1] at c_86
          refine lv_aload_n hx hb dX12_closed_28 rfl (lv_at hl 2 rfl) ?_
          refine tk_getP (D := (dC, dI)) (ci := 12) (v := .ref a_21) (C := RX12) (T := TX12) (N := 56) hx hb hU inlX12 hown hK hP mo0 hfo_20 rfl 0 (by decide) (hU _ wd_169) (fun _ h9 => h9) rfl dX12_closed_29 ?_
          refine lv_sipush (v := 600) hx hb dX12_closed_32 (by decide) ?_
          refine lv_iconst (v := 4) hx hb dX12_closed_35 (by decide) ?_
          refine lv_bipush (v := 10) hx hb dX12_closed_36 (by decide) ?_
          refine lv_iload_n hx hb dX12_closed_38 rfl (lv_at hl 3 rfl) ?_
          refine lv_imul hx hb dX12_closed_39 ?_
          refine lv_topi (fun x_87 ex_87 => ?_)
          have hx_87 : x_87.toInt = 10 * p1.toInt := by rw [ex_87, ml_I (by rw [ti_10]; omega) (by rw [ti_10]; omega), ti_10]
          have bx_87 : (0 ≤ x_87.toInt ∧ x_87.toInt ≤ 230) := by constructor <;> omega
          refine lv_iconst (v := 5) hx hb dX12_closed_40 (by decide) ?_
          refine lv_iload_n hx hb dX12_closed_41 rfl (lv_at hl 4 rfl) ?_
          refine lv_imul hx hb dX12_closed_42 ?_
          refine lv_topi (fun x_88 ex_88 => ?_)
          have hx_88 : x_88.toInt = 5 * p2.toInt := by rw [ex_88, ml_I (by rw [ti_5]; omega) (by rw [ti_5]; omega), ti_5]
          have bx_88 : (0 ≤ x_88.toInt ∧ x_88.toInt ≤ 5) := by constructor <;> omega
          refine lv_iadd hx hb dX12_closed_43 ?_
          refine lv_topi (fun x_89 ex_89 => ?_)
          have hx_89 : x_89.toInt = x_87.toInt + x_88.toInt := by rw [ex_89, ad_I (by omega) (by omega)]
          have bx_89 : (0 ≤ x_89.toInt ∧ x_89.toInt ≤ 235) := by constructor <;> omega
          refine lv_iload hx hb dX12_closed_44 (lv_at hl 0 rfl) ?_
          refine lv_iadd hx hb dX12_closed_46 ?_
          refine lv_topi (fun x_90 ex_90 => ?_)
          have hx_90 : x_90.toInt = x_89.toInt + y_17.toInt := by rw [ex_90, ad_I (by omega) (by omega)]
          have bx_90 : (0 ≤ x_90.toInt ∧ x_90.toInt ≤ 239) := by constructor <;> omega
          refine lv_imul hx hb dX12_closed_47 ?_
          refine lv_topi (fun x_91 ex_91 => ?_)
          have hx_91 : x_91.toInt = 4 * x_90.toInt := by rw [ex_91, ml_I (by rw [ti_4]; omega) (by rw [ti_4]; omega), ti_4]
          have bx_91 : (0 ≤ x_91.toInt ∧ x_91.toInt ≤ 956) := by constructor <;> omega
          refine lv_iadd hx hb dX12_closed_48 ?_
          refine lv_topi (fun x_92 ex_92 => ?_)
          have hx_92 : x_92.toInt = 600 + x_91.toInt := by rw [ex_92, ad_I (by rw [ti_600]; omega) (by rw [ti_600]; omega), ti_600]
          have bx_92 : (600 ≤ x_92.toInt ∧ x_92.toInt ≤ 1556) := by constructor <;> omega
          refine lv_iconst (v := 3) hx hb dX12_closed_49 (by decide) ?_
          refine lv_iadd hx hb dX12_closed_50 ?_
          refine lv_topi (fun x_93 ex_93 => ?_)
          have hx_93 : x_93.toInt = x_92.toInt + 3 := by rw [ex_93, ad_I (by rw [ti_3]; omega) (by rw [ti_3]; omega), ti_3]
          have bx_93 : (603 ≤ x_93.toInt ∧ x_93.toInt ≤ 1559) := by constructor <;> omega
          obtain ⟨g_95, hfo_94, hbg_95⟩ := un_575 (hG _ ma_21) ka_21
          refine tk_ildP hx hb hK hP 0 ma_21 hfo_94 rfl (vp_in_iff.mpr (by constructor <;> omega)) dX12_closed_51 ?_
          refine lv_topi (fun x_96 ex_96 => ?_)
          have bx_96 : ((-2147483648) ≤ x_96.toInt ∧ x_96.toInt ≤ 2147483647) := ⟨i32_lo _, i32_hi _⟩
          refine lv_iconst (v := 1) hx hb dX12_closed_52 (by decide) ?_
          refine lv_icmp_ne (tgt := 65) hx hb dX12_closed_53 (by decide) (fun c_97 => ?_) (fun c_97 => ?_)
          · skip
            rw [← Int32.toInt_inj, ti_1] at c_97
            exact hcut_84 y_18 (by constructor <;> omega) ls (lv_sub hl [0, 1, 2, 3, 4, 5] rfl)
          · skip
            rw [← Int32.toInt_inj, ti_1] at c_97
            refine lv_iload hx hb dX12_closed_56 (lv_at hl 1 rfl) ?_
            refine lv_iconst (v := 2) hx hb dX12_closed_58 (by decide) ?_
            refine lv_iload hx hb dX12_closed_59 (lv_at hl 0 rfl) ?_
            refine lv_ishl hx hb dX12_closed_61 ?_
            refine lv_topi (fun x_98 ex_98 => ?_)
            have bx_98 : (2 ≤ x_98.toInt ∧ x_98.toInt ≤ 32) := by rw [ex_98]; exact sl_2_4 (by constructor <;> omega)
            refine lv_ior hx hb dX12_closed_62 ?_
            refine lv_topi (fun x_99 ex_99 => ?_)
            have bx_99 : (0 ≤ x_99.toInt ∧ x_99.toInt ≤ 63) := by rw [ex_99]; exact or_K 6 (by decide) (by constructor <;> omega) (by constructor <;> omega)
            refine lv_istore (lv' := [(4, .int x_99), (5, .int y_17), (0, .ref o0), (1, .int p1), (2, .int p2), (3, .int p3)]) hx hb dX12_closed_63 hl (by decide) rfl (fun ls hl => ?_)
            exact hcut_84 x_99 (by constructor <;> omega) ls (lv_sub hl [1, 0, 2, 3, 4, 5] rfl)
  exact hloop_16 6 0 (by decide) p3 (by constructor <;> omega) _ _ hP hS (by (try rw [ti_0]) <;> omega) ls hl
set_option maxHeartbeats 8000000 in
set_option maxRecDepth 100000 in
theorem s_X12_goesOn_k12 (l : Launch) (D : va_G) (cI cL cZ cR cG cH : ClassId) (Z : zT) (kd : Nat → Nat) (L : List Nat) (f : Nat → va_E) (hG : GI (okc cI cL cZ cR cG cH L kd) kd L f) (o0 : Nat) (mo0 : o0 ∈ L) (ko0 : kd o0 = 12) (p1 : Int32) (bp1 : (0 ≤ p1.toInt ∧ p1.toInt ≤ 23)) (p2 : Int32) (bp2 : (0 ≤ p2.toInt ∧ p2.toInt ≤ 1)) (p3 : Int32) (p4 : Int32) : mPI l D cI cL cZ cR cG cH Z yX12_goesOn cX12_goesOn 10 (some .int) 2 47 [.ref o0, .int p1, .int p2, .int p3, .int p4] L f (fun (r : Int32) (f9 : Nat → va_E) => f = f9 ∧ (0 ≤ r.toInt ∧ r.toInt ≤ 63)) := by
  obtain ⟨dC, dI⟩ := D
  refine Met.ofW (cc := cX12_goesOn) (maxL := 10) (ret := (some .int)) (by decide) rfl ?_
  intro p e s m args below meth c s₁ B hml hv
  obtain ⟨rfl, hP, hK, hD0, hN, hZ⟩ := hv
  have hx := B.exec
  have hb := B.bytes
  have hr := B.returns
  have hU : ∀ w ∈ wsU, w.before _ s = true := fun w h => atoms_spec (ws := wU yX12_goesOn cX12_goesOn 10 (some .int)) B.pre w (List.mem_cons_of_mem _ h)
  have hown : s.vm.findClass RX12 = some m.cls := findClass_of_methodNamed B.named
  have hlocks := B.notSynchronized
  have hD := pl_in hD0
  have hS : va_S (fun q => q ∈ L) s.heap s.heap [] := va_S.rf
  have hl := lv_entry ([.ref o0, .int p1, .int p2, .int p3, .int p4]) (n := 10) (Nat.le_of_ble_eq_true rfl)
  rw [lg_entry_eq]
  generalize (lg_sl ([.ref o0, .int p1, .int p2, .int p3, .int p4]) ++ List.replicate (10 - (lg_sl ([.ref o0, .int p1, .int p2, .int p3, .int p4])).length) Slot.unset).toArray = ls at hl ⊢
  have hl : lv_has ls 10 [(0, .ref o0), (1, .int p1), (2, .int p2), (3, .int p3), (4, .int p4)] := hl
  have bp3 : ((-2147483648) ≤ p3.toInt ∧ p3.toInt ≤ 2147483647) := ⟨i32_lo _, i32_hi _⟩
  have bp4 : ((-2147483648) ≤ p4.toInt ∧ p4.toInt ≤ 2147483647) := ⟨i32_lo _, i32_hi _⟩
  refine lv_iload hx hb dX12_goesOn_0 (lv_at hl 4 rfl) ?_
  refine lv_bipush (v := 9) hx hb dX12_goesOn_2 (by decide) ?_
  refine lv_idiv hx hb dX12_goesOn_4 (by decide) ?_
  refine lv_topi (fun x_1 ex_1 => ?_)
  have bx_1 : ((-2147483648) ≤ x_1.toInt ∧ x_1.toInt ≤ 2147483647) := ⟨i32_lo _, i32_hi _⟩
  refine lv_istore (lv' := [(5, .int x_1), (0, .ref o0), (1, .int p1), (2, .int p2), (3, .int p3), (4, .int p4)]) hx hb dX12_goesOn_5 hl (by decide) rfl (fun ls hl => ?_)
  refine lv_iload hx hb dX12_goesOn_7 (lv_at hl 5 rfl) ?_
  refine lv_bipush (v := 9) hx hb dX12_goesOn_9 (by decide) ?_
  refine lv_irem hx hb dX12_goesOn_11 (by decide) ?_
  refine lv_topi (fun x_2 ex_2 => ?_)
  have bx_2 : ((-2147483648) ≤ x_2.toInt ∧ x_2.toInt ≤ 2147483647) := ⟨i32_lo _, i32_hi _⟩
  refine lv_istore (lv' := [(6, .int x_2), (5, .int x_1), (0, .ref o0), (1, .int p1), (2, .int p2), (3, .int p3), (4, .int p4)]) hx hb dX12_goesOn_12 hl (by decide) rfl (fun ls hl => ?_)
  refine lv_iconst (v := 0) hx hb dX12_goesOn_14 (by decide) ?_
  refine lv_istore (lv' := [(7, .int 0), (6, .int x_2), (5, .int x_1), (0, .ref o0), (1, .int p1), (2, .int p2), (3, .int p3), (4, .int p4)]) hx hb dX12_goesOn_15 hl (by decide) rfl (fun ls hl => ?_)
  refine lv_iconst (v := 0) hx hb dX12_goesOn_17 (by decide) ?_
  refine lv_istore (lv' := [(8, .int 0), (7, .int 0), (6, .int x_2), (5, .int x_1), (0, .ref o0), (1, .int p1), (2, .int p2), (3, .int p3), (4, .int p4)]) hx hb dX12_goesOn_18 hl (by decide) rfl (fun ls hl => ?_)
  have hloop_18 : ∀ (n : Nat), ∀ (y_19 : Int32), (0 ≤ y_19.toInt ∧ y_19.toInt ≤ 5) → ∀ (y_20 : Int32), (0 ≤ y_20.toInt ∧ y_20.toInt ≤ 63) → ∀ (H : Heap) (locs : List Loc), va_P (dC, dI) vwCl (va_pl L f) H → va_S (fun q => q ∈ L) s.heap H locs → 5 - y_19.toInt < (n : Int) → ∀ (ls : Array Slot), lv_has ls 10 [(8, .int y_19), (7, .int y_20), (6, .int x_2), (5, .int x_1), (0, .ref o0), (1, .int p1), (2, .int p2), (3, .int p3), (4, .int p4)] → W p l e (headSpec (wU yX12_goesOn cX12_goesOn 10 (some .int)) { frames := 2, cells := 0, slots := 0, locals := 47 }).room s m [.ref o0, .int p1, .int p2, .int p3, .int p4].toArray below meth c H locs 0 0 (MQ below (va_Qi (fun (r : Int32) (f9 : Nat → va_E) => f = f9 ∧ (0 ≤ r.toInt ∧ r.toInt ≤ 63)) (qP (dC, dI) cI cL cZ cR cG cH L) (fun q => q ∈ L)) [.ref o0, .int p1, .int p2, .int p3, .int p4].toArray s 0 0 (fun q => q ∈ L)) (F0 m 20 ls []) := by
    intro n
    induction n with
    | zero => intro y_19 by_19 y_20 by_20 H locs hP hS hmuhloop_18 ls hl; exfalso; omega
    | succ n ih_hloop_18 =>
      intro y_19 by_19 y_20 by_20 H locs hP hS hmuhloop_18 ls hl
      refine lv_iload hx hb dX12_goesOn_20 (lv_at hl 0 rfl) ?_
      refine lv_aload_n hx hb dX12_goesOn_22 rfl (lv_at hl 4 rfl) ?_
      refine lv_iload_n hx hb dX12_goesOn_23 rfl (lv_at hl 5 rfl) ?_
      refine lv_iload_n hx hb dX12_goesOn_24 rfl (lv_at hl 6 rfl) ?_
      obtain ⟨a_23, a_24, a_25, v_26, a_27, v_28, v_29, v_30, v_31, v_32, v_33, v_34, v_35, v_36, v_37, a_38, a_39, a_40, a_41, a_42, a_43, a_44, a_45, v_46, v_47, v_48, v_49, v_50, a_51, v_52, a_53, a_54, v_55, v_56, a_57, v_58, a_59, a_60, v_61, v_62, a_63, a_64, a_65, v_66, a_67, a_68, a_69, a_70, a_71, a_72, a_73, a_74, a_75, v_76, v_77, a_78, hfo_22, ⟨ma_23, ka_23⟩, ⟨ma_24, ka_24⟩, ⟨ma_25, ka_25⟩, bv_26, ⟨ma_27, ka_27⟩, bv_28, bv_29, bv_34, bv_35, bv_36, ⟨ma_38, ka_38⟩, ⟨ma_39, ka_39⟩, ⟨ma_40, ka_40⟩, ⟨ma_41, ka_41⟩, ⟨ma_42, ka_42⟩, ⟨ma_43, ka_43⟩, ⟨ma_44, ka_44⟩, ⟨ma_45, ka_45⟩, bv_46, bv_48, bv_50, ⟨ma_51, ka_51⟩, bv_52, ⟨ma_53, ka_53⟩, ⟨ma_54, ka_54⟩, bv_55, ⟨ma_57, ka_57⟩, bv_58, ⟨ma_59, ka_59⟩, ⟨ma_60, ka_60⟩, bv_61, ⟨ma_63, ka_63⟩, ⟨ma_64, ka_64⟩, ⟨ma_65, ka_65⟩, bv_66, ⟨ma_67, ka_67⟩, ⟨ma_68, ka_68⟩, ⟨ma_69, ka_69⟩, ⟨ma_70, ka_70⟩, ⟨ma_71, ka_71⟩, ⟨ma_72, ka_72⟩, ⟨ma_73, ka_73⟩, ⟨ma_74, ka_74⟩, ⟨ma_75, ka_75⟩, bv_76, ⟨ma_78, ka_78⟩⟩ := un_12 (hG _ mo0) ko0
      have bv_30 : ((-2147483648) ≤ v_30.toInt ∧ v_30.toInt ≤ 2147483647) := ⟨i32_lo _, i32_hi _⟩
      have bv_31 : ((-2147483648) ≤ v_31.toInt ∧ v_31.toInt ≤ 2147483647) := ⟨i32_lo _, i32_hi _⟩
      have bv_32 : ((-2147483648) ≤ v_32.toInt ∧ v_32.toInt ≤ 2147483647) := ⟨i32_lo _, i32_hi _⟩
      have bv_33 : ((-2147483648) ≤ v_33.toInt ∧ v_33.toInt ≤ 2147483647) := ⟨i32_lo _, i32_hi _⟩
      have bv_37 : ((-2147483648) ≤ v_37.toInt ∧ v_37.toInt ≤ 2147483647) := ⟨i32_lo _, i32_hi _⟩
      have bv_47 : ((-2147483648) ≤ v_47.toInt ∧ v_47.toInt ≤ 2147483647) := ⟨i32_lo _, i32_hi _⟩
      have bv_49 : ((-2147483648) ≤ v_49.toInt ∧ v_49.toInt ≤ 2147483647) := ⟨i32_lo _, i32_hi _⟩
      have bv_56 : ((-2147483648) ≤ v_56.toInt ∧ v_56.toInt ≤ 2147483647) := ⟨i32_lo _, i32_hi _⟩
      have bv_62 : ((-2147483648) ≤ v_62.toInt ∧ v_62.toInt ≤ 2147483647) := ⟨i32_lo _, i32_hi _⟩
      have bv_77 : ((-2147483648) ≤ v_77.toInt ∧ v_77.toInt ≤ 2147483647) := ⟨i32_lo _, i32_hi _⟩
      refine tk_ViP (As := [.int p1, .int p2]) (rest := [.int y_19]) (n := 2) hx hb hml hown hU hN hZ (s_X12_itemsOf_k12 l (dC, dI) cI cL cZ cR cG cH Z kd L f hG o0 mo0 ko0 p1 (by constructor <;> omega) p2 (by constructor <;> omega)) wd_882 wd_883 wd_884 wd_5 wd_885 (by decide +kernel) ⟨Nat.le_of_ble_eq_true rfl, Nat.le_of_ble_eq_true rfl⟩ hK hP hD hS mo0 hfo_22 12 rfl rfl rfl hl.1 rfl (Nat.le_of_ble_eq_true rfl) dX12_goesOn_25 ⟨Nat.le_of_ble_eq_true rfl, Nat.le_of_ble_eq_true rfl⟩ (fun x_79 f_80 H locs hw hP hD hS => ?_)
      obtain ⟨rfl, bx_79⟩ := hw
      refine lv_icmp_ge (tgt := 149) hx hb dX12_goesOn_28 (by decide) (fun c_82 => ?_) (fun c_82 => ?_)
      · skip
        rw [Int32.le_iff_toInt_le] at c_82
        refine lv_aload_n hx hb dX12_goesOn_149 rfl (lv_at hl 4 rfl) ?_
        refine lv_iload_n hx hb dX12_goesOn_150 rfl (lv_at hl 5 rfl) ?_
        refine lv_iload_n hx hb dX12_goesOn_151 rfl (lv_at hl 6 rfl) ?_
        refine lv_iload hx hb dX12_goesOn_152 (lv_at hl 1 rfl) ?_
        refine tk_ViP (As := [.int p1, .int p2, .int y_20]) (rest := []) (n := 3) hx hb hml hown hU hN hZ (s_X12_closed_k12 l (dC, dI) cI cL cZ cR cG cH Z kd L f hG o0 mo0 ko0 p1 (by constructor <;> omega) p2 (by constructor <;> omega) y_20 (by constructor <;> omega)) wd_878 wd_879 wd_880 wd_5 wd_881 (by decide +kernel) ⟨Nat.le_of_ble_eq_true rfl, Nat.le_of_ble_eq_true rfl⟩ hK hP hD hS mo0 hfo_22 12 rfl rfl rfl hl.1 rfl (Nat.le_of_ble_eq_true rfl) dX12_goesOn_154 ⟨Nat.le_of_ble_eq_true rfl, Nat.le_of_ble_eq_true rfl⟩ (fun x_83 f_84 H locs hw hP hD hS => ?_)
        obtain ⟨rfl, bx_83⟩ := hw
        exact W.iret (v := x_83) hx hb hr (fun t ht hW => ⟨⟨x_83, f, rfl, ⟨rfl, (by constructor <;> omega)⟩, by rw [ht]; exact hP, va_K.moved hW.alike hK, pl_in hD⟩, hS.F ht⟩) hS.2.2 dX12_goesOn_157
      · skip
        rw [Int32.le_iff_toInt_le] at c_82
        refine lv_sipush (v := 600) hx hb dX12_goesOn_31 (by decide) ?_
        refine lv_iconst (v := 4) hx hb dX12_goesOn_34 (by decide) ?_
        refine lv_bipush (v := 10) hx hb dX12_goesOn_35 (by decide) ?_
        refine lv_iload_n hx hb dX12_goesOn_37 rfl (lv_at hl 5 rfl) ?_
        refine lv_imul hx hb dX12_goesOn_38 ?_
        refine lv_topi (fun x_86 ex_86 => ?_)
        have hx_86 : x_86.toInt = 10 * p1.toInt := by rw [ex_86, ml_I (by rw [ti_10]; omega) (by rw [ti_10]; omega), ti_10]
        have bx_86 : (0 ≤ x_86.toInt ∧ x_86.toInt ≤ 230) := by constructor <;> omega
        refine lv_iconst (v := 5) hx hb dX12_goesOn_39 (by decide) ?_
        refine lv_iload_n hx hb dX12_goesOn_40 rfl (lv_at hl 6 rfl) ?_
        refine lv_imul hx hb dX12_goesOn_41 ?_
        refine lv_topi (fun x_87 ex_87 => ?_)
        have hx_87 : x_87.toInt = 5 * p2.toInt := by rw [ex_87, ml_I (by rw [ti_5]; omega) (by rw [ti_5]; omega), ti_5]
        have bx_87 : (0 ≤ x_87.toInt ∧ x_87.toInt ≤ 5) := by constructor <;> omega
        refine lv_iadd hx hb dX12_goesOn_42 ?_
        refine lv_topi (fun x_88 ex_88 => ?_)
        have hx_88 : x_88.toInt = x_86.toInt + x_87.toInt := by rw [ex_88, ad_I (by omega) (by omega)]
        have bx_88 : (0 ≤ x_88.toInt ∧ x_88.toInt ≤ 235) := by constructor <;> omega
        refine lv_iload hx hb dX12_goesOn_43 (lv_at hl 0 rfl) ?_
        refine lv_iadd hx hb dX12_goesOn_45 ?_
        refine lv_topi (fun x_89 ex_89 => ?_)
        have hx_89 : x_89.toInt = x_88.toInt + y_19.toInt := by rw [ex_89, ad_I (by omega) (by omega)]
        have bx_89 : (0 ≤ x_89.toInt ∧ x_89.toInt ≤ 239) := by constructor <;> omega
        refine lv_imul hx hb dX12_goesOn_46 ?_
        refine lv_topi (fun x_90 ex_90 => ?_)
        have hx_90 : x_90.toInt = 4 * x_89.toInt := by rw [ex_90, ml_I (by rw [ti_4]; omega) (by rw [ti_4]; omega), ti_4]
        have bx_90 : (0 ≤ x_90.toInt ∧ x_90.toInt ≤ 956) := by constructor <;> omega
        refine lv_iadd hx hb dX12_goesOn_47 ?_
        refine lv_topi (fun x_91 ex_91 => ?_)
        have hx_91 : x_91.toInt = 600 + x_90.toInt := by rw [ex_91, ad_I (by rw [ti_600]; omega) (by rw [ti_600]; omega), ti_600]
        have bx_91 : (600 ≤ x_91.toInt ∧ x_91.toInt ≤ 1556) := by constructor <;> omega
        refine lv_istore (lv' := [(9, .int x_91), (8, .int y_19), (7, .int y_20), (6, .int x_2), (5, .int x_1), (0, .ref o0), (1, .int p1), (2, .int p2), (3, .int p3), (4, .int p4)]) hx hb dX12_goesOn_48 hl (by decide) rfl (fun ls hl => ?_)
        refine lv_iload_n hx hb dX12_goesOn_50 rfl (lv_at hl 8 rfl) ?_
        refine lv_iload hx hb dX12_goesOn_51 (lv_at hl 1 rfl) ?_
        refine lv_ishr hx hb dX12_goesOn_53 ?_
        refine lv_topi (fun x_92 ex_92 => ?_)
        have bx_92 : ((-2147483648) ≤ x_92.toInt ∧ x_92.toInt ≤ 2147483647) := ⟨i32_lo _, i32_hi _⟩
        refine lv_iconst (v := 1) hx hb dX12_goesOn_54 (by decide) ?_
        refine lv_iand hx hb dX12_goesOn_55 ?_
        refine lv_topi (fun x_93 ex_93 => ?_)
        have bx_93 : (0 ≤ x_93.toInt ∧ x_93.toInt ≤ 1) := by rw [ex_93]; have h8 := an_C x_92 (m := 1) (by decide); rw [ti_1] at h8; exact h8
        have hcut_95 : ∀ (y_94 : Int32), (0 ≤ y_94.toInt ∧ y_94.toInt ≤ 63) → ∀ (ls : Array Slot), lv_has ls 10 [(9, .int x_91), (8, .int y_19), (7, .int y_94), (6, .int x_2), (5, .int x_1), (0, .ref o0), (1, .int p1), (2, .int p2), (3, .int p3), (4, .int p4)] → W p l e (headSpec (wU yX12_goesOn cX12_goesOn 10 (some .int)) { frames := 2, cells := 0, slots := 0, locals := 47 }).room s m [.ref o0, .int p1, .int p2, .int p3, .int p4].toArray below meth c H locs 0 0 (MQ below (va_Qi (fun (r : Int32) (f9 : Nat → va_E) => f = f9 ∧ (0 ≤ r.toInt ∧ r.toInt ≤ 63)) (qP (dC, dI) cI cL cZ cR cG cH L) (fun q => q ∈ L)) [.ref o0, .int p1, .int p2, .int p3, .int p4].toArray s 0 0 (fun q => q ∈ L)) (F0 m 143 ls []) := by
          intro y_94 by_94 ls hl
          obtain ⟨x_96, ex_96⟩ : ∃ y : Int32, y_19 + 1 = y := ⟨_, rfl⟩
          have hx_96 : x_96.toInt = y_19.toInt + 1 := by rw [← ex_96, ad_I (by rw [ti_1]; omega) (by rw [ti_1]; omega), ti_1]
          have bx_96 : (1 ≤ x_96.toInt ∧ x_96.toInt ≤ 5) := by constructor <;> omega
          refine lv_iinc (v := x_96) (lv' := [(8, .int x_96), (9, .int x_91), (7, .int y_94), (6, .int x_2), (5, .int x_1), (0, .ref o0), (1, .int p1), (2, .int p2), (3, .int p3), (4, .int p4)]) hx hb dX12_goesOn_143 hl (k := 1) rfl ex_96 (by decide) rfl (fun ls hl => ?_)
          refine lv_goto (tgt := 20) hx hb dX12_goesOn_146 (by decide) ?_
          exact ih_hloop_18 x_96 (by constructor <;> omega) y_94 (by constructor <;> omega) _ _ hP hS (by omega) ls (lv_sub hl [0, 2, 3, 4, 5, 6, 7, 8, 9] rfl)
        refine lv_if_eq (tgt := 143) hx hb dX12_goesOn_56 (by decide) (fun c_97 => ?_) (fun c_97 => ?_)
        · skip
          rw [← Int32.toInt_inj, ti_0] at c_97
          exact hcut_95 y_20 (by constructor <;> omega) ls (lv_sub hl [0, 1, 2, 3, 4, 5, 6, 7, 8, 9] rfl)
        · skip
          rw [← Int32.toInt_inj, ti_0] at c_97
          refine lv_aload_n hx hb dX12_goesOn_59 rfl (lv_at hl 5 rfl) ?_
          refine tk_getP (D := (dC, dI)) (ci := 12) (v := .ref a_23) (C := RX12) (T := TX12) (N := 56) hx hb hU inlX12 hown hK hP mo0 hfo_22 rfl 0 (by decide) (hU _ wd_169) (fun _ h9 => h9) rfl dX12_goesOn_60 ?_
          refine lv_iload hx hb dX12_goesOn_63 (lv_at hl 0 rfl) ?_
          obtain ⟨g_99, hfo_98, hbg_99⟩ := un_575 (hG _ ma_23) ka_23
          refine tk_ildP hx hb hK hP 0 ma_23 hfo_98 rfl (vp_in_iff.mpr (by constructor <;> omega)) dX12_goesOn_65 ?_
          refine lv_topi (fun x_100 ex_100 => ?_)
          have bx_100 : ((-2147483648) ≤ x_100.toInt ∧ x_100.toInt ≤ 2147483647) := ⟨i32_lo _, i32_hi _⟩
          refine lv_iload hx hb dX12_goesOn_66 (lv_at hl 4 rfl) ?_
          refine lv_ishr hx hb dX12_goesOn_68 ?_
          refine lv_topi (fun x_101 ex_101 => ?_)
          have bx_101 : ((-2147483648) ≤ x_101.toInt ∧ x_101.toInt ≤ 2147483647) := ⟨i32_lo _, i32_hi _⟩
          refine lv_iconst (v := 1) hx hb dX12_goesOn_69 (by decide) ?_
          refine lv_iand hx hb dX12_goesOn_70 ?_
          refine lv_topi (fun x_102 ex_102 => ?_)
          have bx_102 : (0 ≤ x_102.toInt ∧ x_102.toInt ≤ 1) := by rw [ex_102]; have h8 := an_C x_101 (m := 1) (by decide); rw [ti_1] at h8; exact h8
          refine lv_if_eq (tgt := 143) hx hb dX12_goesOn_71 (by decide) (fun c_103 => ?_) (fun c_103 => ?_)
          · skip
            rw [← Int32.toInt_inj, ti_0] at c_103
            exact hcut_95 y_20 (by constructor <;> omega) ls (lv_sub hl [0, 1, 2, 3, 4, 5, 6, 7, 8, 9] rfl)
          · skip
            rw [← Int32.toInt_inj, ti_0] at c_103
            refine lv_aload_n hx hb dX12_goesOn_74 rfl (lv_at hl 5 rfl) ?_
            refine tk_getP (D := (dC, dI)) (ci := 12) (v := .ref a_23) (C := RX12) (T := TX12) (N := 56) hx hb hU inlX12 hown hK hP mo0 hfo_22 rfl 0 (by decide) (hU _ wd_169) (fun _ h9 => h9) rfl dX12_goesOn_75 ?_
            refine lv_iload hx hb dX12_goesOn_78 (lv_at hl 0 rfl) ?_
            refine lv_iconst (v := 1) hx hb dX12_goesOn_80 (by decide) ?_
            refine lv_iadd hx hb dX12_goesOn_81 ?_
            refine lv_topi (fun x_104 ex_104 => ?_)
            have hx_104 : x_104.toInt = x_91.toInt + 1 := by rw [ex_104, ad_I (by rw [ti_1]; omega) (by rw [ti_1]; omega), ti_1]
            have bx_104 : (601 ≤ x_104.toInt ∧ x_104.toInt ≤ 1557) := by constructor <;> omega
            refine tk_ildP hx hb hK hP 0 ma_23 hfo_98 rfl (vp_in_iff.mpr (by constructor <;> omega)) dX12_goesOn_82 ?_
            refine lv_topi (fun x_105 ex_105 => ?_)
            have bx_105 : ((-2147483648) ≤ x_105.toInt ∧ x_105.toInt ≤ 2147483647) := ⟨i32_lo _, i32_hi _⟩
            refine lv_iload hx hb dX12_goesOn_83 (lv_at hl 3 rfl) ?_
            refine lv_ishr hx hb dX12_goesOn_85 ?_
            refine lv_topi (fun x_106 ex_106 => ?_)
            have bx_106 : ((-2147483648) ≤ x_106.toInt ∧ x_106.toInt ≤ 2147483647) := ⟨i32_lo _, i32_hi _⟩
            refine lv_iconst (v := 1) hx hb dX12_goesOn_86 (by decide) ?_
            refine lv_iand hx hb dX12_goesOn_87 ?_
            refine lv_topi (fun x_107 ex_107 => ?_)
            have bx_107 : (0 ≤ x_107.toInt ∧ x_107.toInt ≤ 1) := by rw [ex_107]; have h8 := an_C x_106 (m := 1) (by decide); rw [ti_1] at h8; exact h8
            refine lv_if_eq (tgt := 143) hx hb dX12_goesOn_88 (by decide) (fun c_108 => ?_) (fun c_108 => ?_)
            · skip
              rw [← Int32.toInt_inj, ti_0] at c_108
              exact hcut_95 y_20 (by constructor <;> omega) ls (lv_sub hl [0, 1, 2, 3, 4, 5, 6, 7, 8, 9] rfl)
            · skip
              rw [← Int32.toInt_inj, ti_0] at c_108
              refine lv_aload_n hx hb dX12_goesOn_91 rfl (lv_at hl 5 rfl) ?_
              refine tk_getP (D := (dC, dI)) (ci := 12) (v := .ref a_23) (C := RX12) (T := TX12) (N := 56) hx hb hU inlX12 hown hK hP mo0 hfo_22 rfl 0 (by decide) (hU _ wd_169) (fun _ h9 => h9) rfl dX12_goesOn_92 ?_
              refine lv_iload hx hb dX12_goesOn_95 (lv_at hl 0 rfl) ?_
              refine lv_iconst (v := 2) hx hb dX12_goesOn_97 (by decide) ?_
              refine lv_iadd hx hb dX12_goesOn_98 ?_
              refine lv_topi (fun x_109 ex_109 => ?_)
              have hx_109 : x_109.toInt = x_91.toInt + 2 := by rw [ex_109, ad_I (by rw [ti_2]; omega) (by rw [ti_2]; omega), ti_2]
              have bx_109 : (602 ≤ x_109.toInt ∧ x_109.toInt ≤ 1558) := by constructor <;> omega
              refine tk_ildP hx hb hK hP 0 ma_23 hfo_98 rfl (vp_in_iff.mpr (by constructor <;> omega)) dX12_goesOn_99 ?_
              refine lv_topi (fun x_110 ex_110 => ?_)
              have bx_110 : ((-2147483648) ≤ x_110.toInt ∧ x_110.toInt ≤ 2147483647) := ⟨i32_lo _, i32_hi _⟩
              refine lv_iconst (v := 1) hx hb dX12_goesOn_100 (by decide) ?_
              refine lv_icmp_ne (tgt := 114) hx hb dX12_goesOn_101 (by decide) (fun c_111 => ?_) (fun c_111 => ?_)
              · skip
                rw [← Int32.toInt_inj, ti_1] at c_111
                refine lv_iload hx hb dX12_goesOn_114 (lv_at hl 2 rfl) ?_
                refine lv_aload_n hx hb dX12_goesOn_116 rfl (lv_at hl 5 rfl) ?_
                refine tk_getP (D := (dC, dI)) (ci := 12) (v := .ref a_23) (C := RX12) (T := TX12) (N := 56) hx hb hU inlX12 hown hK hP mo0 hfo_22 rfl 0 (by decide) (hU _ wd_169) (fun _ h9 => h9) rfl dX12_goesOn_117 ?_
                refine lv_iload hx hb dX12_goesOn_120 (lv_at hl 0 rfl) ?_
                refine lv_iconst (v := 3) hx hb dX12_goesOn_122 (by decide) ?_
                refine lv_iadd hx hb dX12_goesOn_123 ?_
                refine lv_topi (fun x_112 ex_112 => ?_)
                have hx_112 : x_112.toInt = x_91.toInt + 3 := by rw [ex_112, ad_I (by rw [ti_3]; omega) (by rw [ti_3]; omega), ti_3]
                have bx_112 : (603 ≤ x_112.toInt ∧ x_112.toInt ≤ 1559) := by constructor <;> omega
                refine tk_ildP hx hb hK hP 0 ma_23 hfo_98 rfl (vp_in_iff.mpr (by constructor <;> omega)) dX12_goesOn_124 ?_
                refine lv_topi (fun x_113 ex_113 => ?_)
                have bx_113 : ((-2147483648) ≤ x_113.toInt ∧ x_113.toInt ≤ 2147483647) := ⟨i32_lo _, i32_hi _⟩
                refine lv_iconst (v := 1) hx hb dX12_goesOn_125 (by decide) ?_
                have hcut_115 : ∀ (y_114 : Int32), (1 ≤ y_114.toInt ∧ y_114.toInt ≤ 32) → ∀ (ls : Array Slot), lv_has ls 10 [(9, .int x_91), (8, .int y_19), (7, .int y_20), (6, .int x_2), (5, .int x_1), (0, .ref o0), (1, .int p1), (2, .int p2), (3, .int p3), (4, .int p4)] → W p l e (headSpec (wU yX12_goesOn cX12_goesOn 10 (some .int)) { frames := 2, cells := 0, slots := 0, locals := 47 }).room s m [.ref o0, .int p1, .int p2, .int p3, .int p4].toArray below meth c H locs 0 0 (MQ below (va_Qi (fun (r : Int32) (f9 : Nat → va_E) => f = f9 ∧ (0 ≤ r.toInt ∧ r.toInt ≤ 63)) (qP (dC, dI) cI cL cZ cR cG cH L) (fun q => q ∈ L)) [.ref o0, .int p1, .int p2, .int p3, .int p4].toArray s 0 0 (fun q => q ∈ L)) (F0 m 140 ls [.int y_114, .int y_20]) := by
                  intro y_114 by_114 ls hl
                  refine lv_ior hx hb dX12_goesOn_140 ?_
                  refine lv_topi (fun x_116 ex_116 => ?_)
                  have bx_116 : (0 ≤ x_116.toInt ∧ x_116.toInt ≤ 63) := by rw [ex_116]; exact or_K 6 (by decide) (by constructor <;> omega) (by constructor <;> omega)
                  refine lv_istore (lv' := [(7, .int x_116), (9, .int x_91), (8, .int y_19), (6, .int x_2), (5, .int x_1), (0, .ref o0), (1, .int p1), (2, .int p2), (3, .int p3), (4, .int p4)]) hx hb dX12_goesOn_141 hl (by decide) rfl (fun ls hl => ?_)
                  exact hcut_95 x_116 (by constructor <;> omega) ls (lv_sub hl [1, 2, 0, 3, 4, 5, 6, 7, 8, 9] rfl)
                refine lv_icmp_ne (tgt := 136) hx hb dX12_goesOn_126 (by decide) (fun c_117 => ?_) (fun c_117 => ?_)
                · skip
                  rw [← Int32.toInt_inj, ti_1] at c_117
                  refine lv_iconst (v := 2) hx hb dX12_goesOn_136 (by decide) ?_
                  refine lv_iload hx hb dX12_goesOn_137 (lv_at hl 1 rfl) ?_
                  refine lv_ishl hx hb dX12_goesOn_139 ?_
                  refine lv_topi (fun x_118 ex_118 => ?_)
                  have bx_118 : (2 ≤ x_118.toInt ∧ x_118.toInt ≤ 32) := by rw [ex_118]; exact sl_2_4 (by constructor <;> omega)
                  exact hcut_115 x_118 (by constructor <;> omega) ls (lv_sub hl [0, 1, 2, 3, 4, 5, 6, 7, 8, 9] rfl)
                · skip
                  rw [← Int32.toInt_inj, ti_1] at c_117
                  refine lv_iconst (v := 1) hx hb dX12_goesOn_129 (by decide) ?_
                  refine lv_iload hx hb dX12_goesOn_130 (lv_at hl 1 rfl) ?_
                  refine lv_ishl hx hb dX12_goesOn_132 ?_
                  refine lv_topi (fun x_119 ex_119 => ?_)
                  have bx_119 : (1 ≤ x_119.toInt ∧ x_119.toInt ≤ 32) := by rw [ex_119]; exact sl_1_5 (by constructor <;> omega)
                  refine lv_goto (tgt := 140) hx hb dX12_goesOn_133 (by decide) ?_
                  exact hcut_115 x_119 (by constructor <;> omega) ls (lv_sub hl [0, 1, 2, 3, 4, 5, 6, 7, 8, 9] rfl)
              · skip
                rw [← Int32.toInt_inj, ti_1] at c_111
                refine lv_iload hx hb dX12_goesOn_104 (lv_at hl 4 rfl) ?_
                refine lv_iload hx hb dX12_goesOn_106 (lv_at hl 3 rfl) ?_
                refine lv_icmp_eq (tgt := 114) hx hb dX12_goesOn_108 (by decide) (fun c_120 => ?_) (fun c_120 => ?_)
                · skip
                  rw [← Int32.toInt_inj] at c_120
                  refine lv_iload hx hb dX12_goesOn_114 (lv_at hl 2 rfl) ?_
                  refine lv_aload_n hx hb dX12_goesOn_116 rfl (lv_at hl 5 rfl) ?_
                  refine tk_getP (D := (dC, dI)) (ci := 12) (v := .ref a_23) (C := RX12) (T := TX12) (N := 56) hx hb hU inlX12 hown hK hP mo0 hfo_22 rfl 0 (by decide) (hU _ wd_169) (fun _ h9 => h9) rfl dX12_goesOn_117 ?_
                  refine lv_iload hx hb dX12_goesOn_120 (lv_at hl 0 rfl) ?_
                  refine lv_iconst (v := 3) hx hb dX12_goesOn_122 (by decide) ?_
                  refine lv_iadd hx hb dX12_goesOn_123 ?_
                  refine lv_topi (fun x_121 ex_121 => ?_)
                  have hx_121 : x_121.toInt = x_91.toInt + 3 := by rw [ex_121, ad_I (by rw [ti_3]; omega) (by rw [ti_3]; omega), ti_3]
                  have bx_121 : (603 ≤ x_121.toInt ∧ x_121.toInt ≤ 1559) := by constructor <;> omega
                  refine tk_ildP hx hb hK hP 0 ma_23 hfo_98 rfl (vp_in_iff.mpr (by constructor <;> omega)) dX12_goesOn_124 ?_
                  refine lv_topi (fun x_122 ex_122 => ?_)
                  have bx_122 : ((-2147483648) ≤ x_122.toInt ∧ x_122.toInt ≤ 2147483647) := ⟨i32_lo _, i32_hi _⟩
                  refine lv_iconst (v := 1) hx hb dX12_goesOn_125 (by decide) ?_
                  have hcut_124 : ∀ (y_123 : Int32), (1 ≤ y_123.toInt ∧ y_123.toInt ≤ 32) → ∀ (ls : Array Slot), lv_has ls 10 [(9, .int x_91), (8, .int y_19), (7, .int y_20), (6, .int x_2), (5, .int x_1), (0, .ref o0), (1, .int p1), (2, .int p2), (3, .int p3), (4, .int p4)] → W p l e (headSpec (wU yX12_goesOn cX12_goesOn 10 (some .int)) { frames := 2, cells := 0, slots := 0, locals := 47 }).room s m [.ref o0, .int p1, .int p2, .int p3, .int p4].toArray below meth c H locs 0 0 (MQ below (va_Qi (fun (r : Int32) (f9 : Nat → va_E) => f = f9 ∧ (0 ≤ r.toInt ∧ r.toInt ≤ 63)) (qP (dC, dI) cI cL cZ cR cG cH L) (fun q => q ∈ L)) [.ref o0, .int p1, .int p2, .int p3, .int p4].toArray s 0 0 (fun q => q ∈ L)) (F0 m 140 ls [.int y_123, .int y_20]) := by
                    intro y_123 by_123 ls hl
                    refine lv_ior hx hb dX12_goesOn_140 ?_
                    refine lv_topi (fun x_125 ex_125 => ?_)
                    have bx_125 : (0 ≤ x_125.toInt ∧ x_125.toInt ≤ 63) := by rw [ex_125]; exact or_K 6 (by decide) (by constructor <;> omega) (by constructor <;> omega)
                    refine lv_istore (lv' := [(7, .int x_125), (9, .int x_91), (8, .int y_19), (6, .int x_2), (5, .int x_1), (0, .ref o0), (1, .int p1), (2, .int p2), (3, .int p3), (4, .int p4)]) hx hb dX12_goesOn_141 hl (by decide) rfl (fun ls hl => ?_)
                    exact hcut_95 x_125 (by constructor <;> omega) ls (lv_sub hl [1, 2, 0, 3, 4, 5, 6, 7, 8, 9] rfl)
                  refine lv_icmp_ne (tgt := 136) hx hb dX12_goesOn_126 (by decide) (fun c_126 => ?_) (fun c_126 => ?_)
                  · skip
                    rw [← Int32.toInt_inj, ti_1] at c_126
                    refine lv_iconst (v := 2) hx hb dX12_goesOn_136 (by decide) ?_
                    refine lv_iload hx hb dX12_goesOn_137 (lv_at hl 1 rfl) ?_
                    refine lv_ishl hx hb dX12_goesOn_139 ?_
                    refine lv_topi (fun x_127 ex_127 => ?_)
                    have bx_127 : (2 ≤ x_127.toInt ∧ x_127.toInt ≤ 32) := by rw [ex_127]; exact sl_2_4 (by constructor <;> omega)
                    exact hcut_124 x_127 (by constructor <;> omega) ls (lv_sub hl [0, 1, 2, 3, 4, 5, 6, 7, 8, 9] rfl)
                  · skip
                    rw [← Int32.toInt_inj, ti_1] at c_126
                    refine lv_iconst (v := 1) hx hb dX12_goesOn_129 (by decide) ?_
                    refine lv_iload hx hb dX12_goesOn_130 (lv_at hl 1 rfl) ?_
                    refine lv_ishl hx hb dX12_goesOn_132 ?_
                    refine lv_topi (fun x_128 ex_128 => ?_)
                    have bx_128 : (1 ≤ x_128.toInt ∧ x_128.toInt ≤ 32) := by rw [ex_128]; exact sl_1_5 (by constructor <;> omega)
                    refine lv_goto (tgt := 140) hx hb dX12_goesOn_133 (by decide) ?_
                    exact hcut_124 x_128 (by constructor <;> omega) ls (lv_sub hl [0, 1, 2, 3, 4, 5, 6, 7, 8, 9] rfl)
                · skip
                  rw [← Int32.toInt_inj] at c_120
                  refine lv_goto (tgt := 143) hx hb dX12_goesOn_111 (by decide) ?_
                  exact hcut_95 y_20 (by constructor <;> omega) ls (lv_sub hl [0, 1, 2, 3, 4, 5, 6, 7, 8, 9] rfl)
  exact hloop_18 6 0 (by decide) 0 (by decide) _ _ hP hS (by (try rw [ti_0]) <;> omega) ls hl
