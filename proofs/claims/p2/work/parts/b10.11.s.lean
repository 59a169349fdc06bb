set_option maxHeartbeats 8000000 in
set_option maxRecDepth 100000 in
theorem s_X12_ofRule_k12_c2_2 (l : Launch) (D : va_G) (cI cL cZ cR cG cH : ClassId) (Z : zT) (kd : Nat → Nat) (L : List Nat) (f : Nat → va_E) (hG : GI (okc cI cL cZ cR cG cH L kd) kd L f) (o0 : Nat) (mo0 : o0 ∈ L) (ko0 : kd o0 = 12) (p1 : Int32) (bp1 : (0 ≤ p1.toInt ∧ p1.toInt ≤ 7)) : mPI l D cI cL cZ cR cG cH Z yX12_ofRule cX12_ofRule 3 (some .int) 0 0 [.ref o0, .int p1, .int 2] L f (fun (r : Int32) (f9 : Nat → va_E) => f = f9 ∧ (0 ≤ r.toInt ∧ r.toInt ≤ 3)) := by
  obtain ⟨dC, dI⟩ := D
  refine Met.ofW (cc := cX12_ofRule) (maxL := 3) (ret := (some .int)) (by decide) rfl ?_
  intro p e s m args below meth c s₁ B hml hv
  obtain ⟨rfl, hP, hK, hD0, hN, hZ⟩ := hv
  have hx := B.exec
  have hb := B.bytes
  have hr := B.returns
  have hU : ∀ w ∈ wsU, w.before _ s = true := fun w h => atoms_spec (ws := wU yX12_ofRule cX12_ofRule 3 (some .int)) B.pre w (List.mem_cons_of_mem _ h)
  have hown : s.vm.findClass RX12 = some m.cls := findClass_of_methodNamed B.named
  have hlocks := B.notSynchronized
  have hD := pl_in hD0
  have hS : va_S (fun q => q ∈ L) s.heap s.heap [] := va_S.rf
  have hl := lv_entry ([.ref o0, .int p1, .int 2]) (n := 3) (Nat.le_of_ble_eq_true rfl)
  rw [lg_entry_eq]
  generalize (lg_sl ([.ref o0, .int p1, .int 2]) ++ List.replicate (3 - (lg_sl ([.ref o0, .int p1, .int 2])).length) Slot.unset).toArray = ls at hl ⊢
  have hl : lv_has ls 3 [(0, .ref o0), (1, .int p1), (2, .int 2)] := hl
  refine lv_aload_n hx hb dX12_ofRule_0 rfl (lv_at hl 0 rfl) ?_
  obtain ⟨a_1, a_2, a_3, v_4, a_5, v_6, v_7, v_8, v_9, v_10, v_11, v_12, v_13, v_14, v_15, a_16, a_17, a_18, a_19, a_20, a_21, a_22, a_23, v_24, v_25, v_26, v_27, v_28, a_29, v_30, a_31, a_32, v_33, v_34, a_35, v_36, a_37, a_38, v_39, v_40, a_41, a_42, a_43, v_44, a_45, a_46, a_47, a_48, a_49, a_50, a_51, a_52, a_53, v_54, v_55, a_56, hfo_57, fa_58⟩ := un12 (hG _ mo0) ko0
  obtain ⟨ma_1, ka_1⟩ := fa12_0 fa_58
  refine tk_getP (D := (dC, dI)) (ci := 12) (v := .ref a_1) (C := RX12) (T := TX12) (N := 56) hx hb hU inlX12 hown hK hP mo0 hfo_57 rfl 0 (by decide) (hU _ wd_169) (fun _ h9 => h9) rfl dX12_ofRule_1 ?_
  refine lv_sipush (v := 460) hx hb dX12_ofRule_4 (by decide) ?_
  refine lv_iconst (v := 4) hx hb dX12_ofRule_7 (by decide) ?_
  refine lv_iload_n hx hb dX12_ofRule_8 rfl (lv_at hl 1 rfl) ?_
  refine lv_imul hx hb dX12_ofRule_9 ?_
  refine lv_topi (fun x_59 ex_59 => ?_)
  have hx_59 : x_59.toInt = 4 * p1.toInt := by rw [ex_59, ml_I (by rw [ti_4]; omega) (by rw [ti_4]; omega), ti_4]
  have bx_59 : (0 ≤ x_59.toInt ∧ x_59.toInt ≤ 28) := by constructor <;> omega
  refine lv_iadd hx hb dX12_ofRule_10 ?_
  refine lv_topi (fun x_60 ex_60 => ?_)
  have hx_60 : x_60.toInt = 460 + x_59.toInt := by rw [ex_60, ad_I (by rw [ti_460]; omega) (by rw [ti_460]; omega), ti_460]
  have bx_60 : (460 ≤ x_60.toInt ∧ x_60.toInt ≤ 488) := by constructor <;> omega
  refine lv_iload_n hx hb dX12_ofRule_11 rfl (lv_at hl 2 rfl) ?_
  refine lv_iadd hx hb dX12_ofRule_12 ?_
  refine lv_topi (fun x_61 ex_61 => ?_)
  have hx_61 : x_61.toInt = x_60.toInt + 2 := by rw [ex_61, ad_I (by rw [ti_2]; omega) (by rw [ti_2]; omega), ti_2]
  have bx_61 : (462 ≤ x_61.toInt ∧ x_61.toInt ≤ 490) := by constructor <;> omega
  obtain ⟨g_63, hfo_62, hbg_63⟩ := un_575 (hG _ ma_1) ka_1
  refine tk_ildP hx hb hK hP 0 ma_1 hfo_62 rfl (vp_in_iff.mpr (by constructor <;> omega)) dX12_ofRule_13 ?_
  refine lv_topi (fun x_64 ex_64 => ?_)
  have bx_64 : (0 ≤ x_64.toInt ∧ x_64.toInt ≤ 3) := by have hc9 := cl_I (i := x_61) (by omega); rw [ex_64]; exact hbg_63.2.2.2.2.2.2.2.2.2.2.2.2.2.1 _ (by omega) (by omega) (by omega)
  exact W.iret (v := x_64) hx hb hr (fun t ht hW => ⟨⟨x_64, f, rfl, ⟨rfl, (by constructor <;> omega)⟩, by rw [ht]; exact hP, va_K.moved hW.alike hK, pl_in hD⟩, hS.F ht⟩) hS.2.2 dX12_ofRule_14
set_option maxHeartbeats 8000000 in
set_option maxRecDepth 100000 in
theorem s_X12_ofRule_k12_c3_3 (l : Launch) (D : va_G) (cI cL cZ cR cG cH : ClassId) (Z : zT) (kd : Nat → Nat) (L : List Nat) (f : Nat → va_E) (hG : GI (okc cI cL cZ cR cG cH L kd) kd L f) (o0 : Nat) (mo0 : o0 ∈ L) (ko0 : kd o0 = 12) (p1 : Int32) (bp1 : (0 ≤ p1.toInt ∧ p1.toInt ≤ 7)) : mPI l D cI cL cZ cR cG cH Z yX12_ofRule cX12_ofRule 3 (some .int) 0 0 [.ref o0, .int p1, .int 3] L f (fun (r : Int32) (f9 : Nat → va_E) => f = f9 ∧ (0 ≤ r.toInt ∧ r.toInt ≤ 3)) := by
  obtain ⟨dC, dI⟩ := D
  refine Met.ofW (cc := cX12_ofRule) (maxL := 3) (ret := (some .int)) (by decide) rfl ?_
  intro p e s m args below meth c s₁ B hml hv
  obtain ⟨rfl, hP, hK, hD0, hN, hZ⟩ := hv
  have hx := B.exec
  have hb := B.bytes
  have hr := B.returns
  have hU : ∀ w ∈ wsU, w.before _ s = true := fun w h => atoms_spec (ws := wU yX12_ofRule cX12_ofRule 3 (some .int)) B.pre w (List.mem_cons_of_mem _ h)
  have hown : s.vm.findClass RX12 = some m.cls := findClass_of_methodNamed B.named
  have hlocks := B.notSynchronized
  have hD := pl_in hD0
  have hS : va_S (fun q => q ∈ L) s.heap s.heap [] := va_S.rf
  have hl := lv_entry ([.ref o0, .int p1, .int 3]) (n := 3) (Nat.le_of_ble_eq_true rfl)
  rw [lg_entry_eq]
  generalize (lg_sl ([.ref o0, .int p1, .int 3]) ++ List.replicate (3 - (lg_sl ([.ref o0, .int p1, .int 3])).length) Slot.unset).toArray = ls at hl ⊢
  have hl : lv_has ls 3 [(0, .ref o0), (1, .int p1), (2, .int 3)] := hl
  refine lv_aload_n hx hb dX12_ofRule_0 rfl (lv_at hl 0 rfl) ?_
  obtain ⟨a_1, a_2, a_3, v_4, a_5, v_6, v_7, v_8, v_9, v_10, v_11, v_12, v_13, v_14, v_15, a_16, a_17, a_18, a_19, a_20, a_21, a_22, a_23, v_24, v_25, v_26, v_27, v_28, a_29, v_30, a_31, a_32, v_33, v_34, a_35, v_36, a_37, a_38, v_39, v_40, a_41, a_42, a_43, v_44, a_45, a_46, a_47, a_48, a_49, a_50, a_51, a_52, a_53, v_54, v_55, a_56, hfo_57, fa_58⟩ := un12 (hG _ mo0) ko0
  obtain ⟨ma_1, ka_1⟩ := fa12_0 fa_58
  refine tk_getP (D := (dC, dI)) (ci := 12) (v := .ref a_1) (C := RX12) (T := TX12) (N := 56) hx hb hU inlX12 hown hK hP mo0 hfo_57 rfl 0 (by decide) (hU _ wd_169) (fun _ h9 => h9) rfl dX12_ofRule_1 ?_
  refine lv_sipush (v := 460) hx hb dX12_ofRule_4 (by decide) ?_
  refine lv_iconst (v := 4) hx hb dX12_ofRule_7 (by decide) ?_
  refine lv_iload_n hx hb dX12_ofRule_8 rfl (lv_at hl 1 rfl) ?_
  refine lv_imul hx hb dX12_ofRule_9 ?_
  refine lv_topi (fun x_59 ex_59 => ?_)
  have hx_59 : x_59.toInt = 4 * p1.toInt := by rw [ex_59, ml_I (by rw [ti_4]; omega) (by rw [ti_4]; omega), ti_4]
  have bx_59 : (0 ≤ x_59.toInt ∧ x_59.toInt ≤ 28) := by constructor <;> omega
  refine lv_iadd hx hb dX12_ofRule_10 ?_
  refine lv_topi (fun x_60 ex_60 => ?_)
  have hx_60 : x_60.toInt = 460 + x_59.toInt := by rw [ex_60, ad_I (by rw [ti_460]; omega) (by rw [ti_460]; omega), ti_460]
  have bx_60 : (460 ≤ x_60.toInt ∧ x_60.toInt ≤ 488) := by constructor <;> omega
  refine lv_iload_n hx hb dX12_ofRule_11 rfl (lv_at hl 2 rfl) ?_
  refine lv_iadd hx hb dX12_ofRule_12 ?_
  refine lv_topi (fun x_61 ex_61 => ?_)
  have hx_61 : x_61.toInt = x_60.toInt + 3 := by rw [ex_61, ad_I (by rw [ti_3]; omega) (by rw [ti_3]; omega), ti_3]
  have bx_61 : (463 ≤ x_61.toInt ∧ x_61.toInt ≤ 491) := by constructor <;> omega
  obtain ⟨g_63, hfo_62, hbg_63⟩ := un_575 (hG _ ma_1) ka_1
  refine tk_ildP hx hb hK hP 0 ma_1 hfo_62 rfl (vp_in_iff.mpr (by constructor <;> omega)) dX12_ofRule_13 ?_
  refine lv_topi (fun x_64 ex_64 => ?_)
  have bx_64 : (0 ≤ x_64.toInt ∧ x_64.toInt ≤ 3) := by have hc9 := cl_I (i := x_61) (by omega); rw [ex_64]; exact hbg_63.2.2.2.2.2.2.2.2.2.2.2.2.2.2.1 _ (by omega) (by omega) (by omega)
  exact W.iret (v := x_64) hx hb hr (fun t ht hW => ⟨⟨x_64, f, rfl, ⟨rfl, (by constructor <;> omega)⟩, by rw [ht]; exact hP, va_K.moved hW.alike hK, pl_in hD⟩, hS.F ht⟩) hS.2.2 dX12_ofRule_14
set_option maxHeartbeats 8000000 in
set_option maxRecDepth 100000 in
theorem s_X12_ofRule_k12 (l : Launch) (D : va_G) (cI cL cZ cR cG cH : ClassId) (Z : zT) (kd : Nat → Nat) (L : List Nat) (f : Nat → va_E) (hG : GI (okc cI cL cZ cR cG cH L kd) kd L f) (o0 : Nat) (mo0 : o0 ∈ L) (ko0 : kd o0 = 12) (p1 : Int32) (bp1 : (0 ≤ p1.toInt ∧ p1.toInt ≤ 7)) (p2 : Int32) (bp2 : (0 ≤ p2.toInt ∧ p2.toInt ≤ 3)) : mPI l D cI cL cZ cR cG cH Z yX12_ofRule cX12_ofRule 3 (some .int) 0 0 [.ref o0, .int p1, .int p2] L f (fun (r : Int32) (f9 : Nat → va_E) => f = f9 ∧ (0 ≤ r.toInt ∧ r.toInt ≤ 8)) := by
  obtain ⟨dC, dI⟩ := D
  refine Met.ofW (cc := cX12_ofRule) (maxL := 3) (ret := (some .int)) (by decide) rfl ?_
  intro p e s m args below meth c s₁ B hml hv
  obtain ⟨rfl, hP, hK, hD0, hN, hZ⟩ := hv
  have hx := B.exec
  have hb := B.bytes
  have hr := B.returns
  have hU : ∀ w ∈ wsU, w.before _ s = true := fun w h => atoms_spec (ws := wU yX12_ofRule cX12_ofRule 3 (some .int)) B.pre w (List.mem_cons_of_mem _ h)
  have hown : s.vm.findClass RX12 = some m.cls := findClass_of_methodNamed B.named
  have hlocks := B.notSynchronized
  have hD := pl_in hD0
  have hS : va_S (fun q => q ∈ L) s.heap s.heap [] := va_S.rf
  have hl := lv_entry ([.ref o0, .int p1, .int p2]) (n := 3) (Nat.le_of_ble_eq_true rfl)
  rw [lg_entry_eq]
  generalize (lg_sl ([.ref o0, .int p1, .int p2]) ++ List.replicate (3 - (lg_sl ([.ref o0, .int p1, .int p2])).length) Slot.unset).toArray = ls at hl ⊢
  have hl : lv_has ls 3 [(0, .ref o0), (1, .int p1), (2, .int p2)] := hl
  refine lv_aload_n hx hb dX12_ofRule_0 rfl (lv_at hl 0 rfl) ?_
  obtain ⟨a_1, a_2, a_3, v_4, a_5, v_6, v_7, v_8, v_9, v_10, v_11, v_12, v_13, v_14, v_15, a_16, a_17, a_18, a_19, a_20, a_21, a_22, a_23, v_24, v_25, v_26, v_27, v_28, a_29, v_30, a_31, a_32, v_33, v_34, a_35, v_36, a_37, a_38, v_39, v_40, a_41, a_42, a_43, v_44, a_45, a_46, a_47, a_48, a_49, a_50, a_51, a_52, a_53, v_54, v_55, a_56, hfo_57, fa_58⟩ := un12 (hG _ mo0) ko0
  obtain ⟨ma_1, ka_1⟩ := fa12_0 fa_58
  refine tk_getP (D := (dC, dI)) (ci := 12) (v := .ref a_1) (C := RX12) (T := TX12) (N := 56) hx hb hU inlX12 hown hK hP mo0 hfo_57 rfl 0 (by decide) (hU _ wd_169) (fun _ h9 => h9) rfl dX12_ofRule_1 ?_
  refine lv_sipush (v := 460) hx hb dX12_ofRule_4 (by decide) ?_
  refine lv_iconst (v := 4) hx hb dX12_ofRule_7 (by decide) ?_
  refine lv_iload_n hx hb dX12_ofRule_8 rfl (lv_at hl 1 rfl) ?_
  refine lv_imul hx hb dX12_ofRule_9 ?_
  refine lv_topi (fun x_59 ex_59 => ?_)
  have hx_59 : x_59.toInt = 4 * p1.toInt := by rw [ex_59, ml_I (by rw [ti_4]; omega) (by rw [ti_4]; omega), ti_4]
  have bx_59 : (0 ≤ x_59.toInt ∧ x_59.toInt ≤ 28) := by constructor <;> omega
  refine lv_iadd hx hb dX12_ofRule_10 ?_
  refine lv_topi (fun x_60 ex_60 => ?_)
  have hx_60 : x_60.toInt = 460 + x_59.toInt := by rw [ex_60, ad_I (by rw [ti_460]; omega) (by rw [ti_460]; omega), ti_460]
  have bx_60 : (460 ≤ x_60.toInt ∧ x_60.toInt ≤ 488) := by constructor <;> omega
  refine lv_iload_n hx hb dX12_ofRule_11 rfl (lv_at hl 2 rfl) ?_
  refine lv_iadd hx hb dX12_ofRule_12 ?_
  refine lv_topi (fun x_61 ex_61 => ?_)
  have hx_61 : x_61.toInt = x_60.toInt + p2.toInt := by rw [ex_61, ad_I (by omega) (by omega)]
  have bx_61 : (460 ≤ x_61.toInt ∧ x_61.toInt ≤ 491) := by constructor <;> omega
  obtain ⟨g_63, hfo_62, hbg_63⟩ := un_575 (hG _ ma_1) ka_1
  refine tk_ildP hx hb hK hP 0 ma_1 hfo_62 rfl (vp_in_iff.mpr (by constructor <;> omega)) dX12_ofRule_13 ?_
  refine lv_topi (fun x_64 ex_64 => ?_)
  have bx_64 : (0 ≤ x_64.toInt ∧ x_64.toInt ≤ 8) := by have hc9 := cl_I (i := x_61) (by omega); rw [ex_64]; exact hbg_63.2.2.2.2.2.2.2.2.2.2.2.2.1 _ (by omega) (by omega) (by omega)
  exact W.iret (v := x_64) hx hb hr (fun t ht hW => ⟨⟨x_64, f, rfl, ⟨rfl, (by constructor <;> omega)⟩, by rw [ht]; exact hP, va_K.moved hW.alike hK, pl_in hD⟩, hS.F ht⟩) hS.2.2 dX12_ofRule_14
set_option maxHeartbeats 8000000 in
set_option maxRecDepth 100000 in
theorem s_X12_itemsOf_k12 (l : Launch) (D : va_G) (cI cL cZ cR cG cH : ClassId) (Z : zT) (kd : Nat → Nat) (L : List Nat) (f : Nat → va_E) (hG : GI (okc cI cL cZ cR cG cH L kd) kd L f) (o0 : Nat) (mo0 : o0 ∈ L) (ko0 : kd o0 = 12) (p1 : Int32) (bp1 : (0 ≤ p1.toInt ∧ p1.toInt ≤ 23)) (p2 : Int32) (bp2 : (0 ≤ p2.toInt ∧ p2.toInt ≤ 1)) : mPI l D cI cL cZ cR cG cH Z yX12_itemsOf cX12_itemsOf 3 (some .int) 0 0 [.ref o0, .int p1, .int p2] L f (fun (r : Int32) (f9 : Nat → va_E) => f = f9 ∧ (0 ≤ r.toInt ∧ r.toInt ≤ 5)) := by
  obtain ⟨dC, dI⟩ := D
  refine Met.ofW (cc := cX12_itemsOf) (maxL := 3) (ret := (some .int)) (by decide) rfl ?_
  intro p e s m args below meth c s₁ B hml hv
  obtain ⟨rfl, hP, hK, hD0, hN, hZ⟩ := hv
  have hx := B.exec
  have hb := B.bytes
  have hr := B.returns
  have hU : ∀ w ∈ wsU, w.before _ s = true := fun w h => atoms_spec (ws := wU yX12_itemsOf cX12_itemsOf 3 (some .int)) B.pre w (List.mem_cons_of_mem _ h)
  have hown : s.vm.findClass RX12 = some m.cls := findClass_of_methodNamed B.named
  have hlocks := B.notSynchronized
  have hD := pl_in hD0
  have hS : va_S (fun q => q ∈ L) s.heap s.heap [] := va_S.rf
  have hl := lv_entry ([.ref o0, .int p1, .int p2]) (n := 3) (Nat.le_of_ble_eq_true rfl)
  rw [lg_entry_eq]
  generalize (lg_sl ([.ref o0, .int p1, .int p2]) ++ List.replicate (3 - (lg_sl ([.ref o0, .int p1, .int p2])).length) Slot.unset).toArray = ls at hl ⊢
  have hl : lv_has ls 3 [(0, .ref o0), (1, .int p1), (2, .int p2)] := hl
  refine lv_aload_n hx hb dX12_itemsOf_0 rfl (lv_at hl 0 rfl) ?_
  obtain ⟨a_1, a_2, a_3, v_4, a_5, v_6, v_7, v_8, v_9, v_10, v_11, v_12, v_13, v_14, v_15, a_16, a_17, a_18, a_19, a_20, a_21, a_22, a_23, v_24, v_25, v_26, v_27, v_28, a_29, v_30, a_31, a_32, v_33, v_34, a_35, v_36, a_37, a_38, v_39, v_40, a_41, a_42, a_43, v_44, a_45, a_46, a_47, a_48, a_49, a_50, a_51, a_52, a_53, v_54, v_55, a_56, hfo_57, fa_58⟩ := un12 (hG _ mo0) ko0
  obtain ⟨ma_1, ka_1⟩ := fa12_0 fa_58
  refine tk_getP (D := (dC, dI)) (ci := 12) (v := .ref a_1) (C := RX12) (T := TX12) (N := 56) hx hb hU inlX12 hown hK hP mo0 hfo_57 rfl 0 (by decide) (hU _ wd_169) (fun _ h9 => h9) rfl dX12_itemsOf_1 ?_
  refine lv_sipush (v := 500) hx hb dX12_itemsOf_4 (by decide) ?_
  refine lv_iconst (v := 4) hx hb dX12_itemsOf_7 (by decide) ?_
  refine lv_iload_n hx hb dX12_itemsOf_8 rfl (lv_at hl 1 rfl) ?_
  refine lv_imul hx hb dX12_itemsOf_9 ?_
  refine lv_topi (fun x_59 ex_59 => ?_)
  have hx_59 : x_59.toInt = 4 * p1.toInt := by rw [ex_59, ml_I (by rw [ti_4]; omega) (by rw [ti_4]; omega), ti_4]
  have bx_59 : (0 ≤ x_59.toInt ∧ x_59.toInt ≤ 92) := by constructor <;> omega
  refine lv_iadd hx hb dX12_itemsOf_10 ?_
  refine lv_topi (fun x_60 ex_60 => ?_)
  have hx_60 : x_60.toInt = 500 + x_59.toInt := by rw [ex_60, ad_I (by rw [ti_500]; omega) (by rw [ti_500]; omega), ti_500]
  have bx_60 : (500 ≤ x_60.toInt ∧ x_60.toInt ≤ 592) := by constructor <;> omega
  refine lv_iconst (v := 2) hx hb dX12_itemsOf_11 (by decide) ?_
  refine lv_iadd hx hb dX12_itemsOf_12 ?_
  refine lv_topi (fun x_61 ex_61 => ?_)
  have hx_61 : x_61.toInt = x_60.toInt + 2 := by rw [ex_61, ad_I (by rw [ti_2]; omega) (by rw [ti_2]; omega), ti_2]
  have bx_61 : (502 ≤ x_61.toInt ∧ x_61.toInt ≤ 594) := by constructor <;> omega
  refine lv_iload_n hx hb dX12_itemsOf_13 rfl (lv_at hl 2 rfl) ?_
  refine lv_iadd hx hb dX12_itemsOf_14 ?_
  refine lv_topi (fun x_62 ex_62 => ?_)
  have hx_62 : x_62.toInt = x_61.toInt + p2.toInt := by rw [ex_62, ad_I (by omega) (by omega)]
  have bx_62 : (502 ≤ x_62.toInt ∧ x_62.toInt ≤ 595) := by constructor <;> omega
  obtain ⟨g_64, hfo_63, hbg_64⟩ := un_575 (hG _ ma_1) ka_1
  refine tk_ildP hx hb hK hP 0 ma_1 hfo_63 rfl (vp_in_iff.mpr (by constructor <;> omega)) dX12_itemsOf_15 ?_
  refine lv_topi (fun x_65 ex_65 => ?_)
  have bx_65 : (0 ≤ x_65.toInt ∧ x_65.toInt ≤ 5) := by have hc9 := cl_I (i := x_62) (by omega); rw [ex_65]; exact hbg_64.2.2.2.2.2.2.2.2.2.2.2.2.2.2.2 _ (by omega) (by omega) (by omega)
  exact W.iret (v := x_65) hx hb hr (fun t ht hW => ⟨⟨x_65, f, rfl, ⟨rfl, (by constructor <;> omega)⟩, by rw [ht]; exact hP, va_K.moved hW.alike hK, pl_in hD⟩, hS.F ht⟩) hS.2.2 dX12_itemsOf_16
set_option maxHeartbeats 8000000 in
set_option maxRecDepth 100000 in
theorem s_X12_isAnchored_k12 (l : Launch) (D : va_G) (cI cL cZ cR cG cH : ClassId) (Z : zT) (kd : Nat → Nat) (L : List Nat) (f : Nat → va_E) (hG : GI (okc cI cL cZ cR cG cH L kd) kd L f) (o0 : Nat) (mo0 : o0 ∈ L) (ko0 : kd o0 = 12) (p1 : Int32) (bp1 : (0 ≤ p1.toInt ∧ p1.toInt ≤ 23)) (p2 : Int32) (bp2 : (0 ≤ p2.toInt ∧ p2.toInt ≤ 1)) : mPI l D cI cL cZ cR cG cH Z yX12_isAnchored cX12_isAnchored 3 (some .boolean) 0 0 [.ref o0, .int p1, .int p2] L f (fun (r : Int32) (f9 : Nat → va_E) => f = f9 ∧ (0 ≤ r.toInt ∧ r.toInt ≤ 1)) := by
  obtain ⟨dC, dI⟩ := D
  refine Met.ofW (cc := cX12_isAnchored) (maxL := 3) (ret := (some .boolean)) (by decide) rfl ?_
  intro p e s m args below meth c s₁ B hml hv
  obtain ⟨rfl, hP, hK, hD0, hN, hZ⟩ := hv
  have hx := B.exec
  have hb := B.bytes
  have hr := B.returns
  have hU : ∀ w ∈ wsU, w.before _ s = true := fun w h => atoms_spec (ws := wU yX12_isAnchored cX12_isAnchored 3 (some .boolean)) B.pre w (List.mem_cons_of_mem _ h)
  have hown : s.vm.findClass RX12 = some m.cls := findClass_of_methodNamed B.named
  have hlocks := B.notSynchronized
  have hD := pl_in hD0
  have hS : va_S (fun q => q ∈ L) s.heap s.heap [] := va_S.rf
  have hl := lv_entry ([.ref o0, .int p1, .int p2]) (n := 3) (Nat.le_of_ble_eq_true rfl)
  rw [lg_entry_eq]
  generalize (lg_sl ([.ref o0, .int p1, .int p2]) ++ List.replicate (3 - (lg_sl ([.ref o0, .int p1, .int p2])).length) Slot.unset).toArray = ls at hl ⊢
  have hl : lv_has ls 3 [(0, .ref o0), (1, .int p1), (2, .int p2)] := hl
  refine lv_aload_n hx hb dX12_isAnchored_0 rfl (lv_at hl 0 rfl) ?_
  obtain ⟨a_1, a_2, a_3, v_4, a_5, v_6, v_7, v_8, v_9, v_10, v_11, v_12, v_13, v_14, v_15, a_16, a_17, a_18, a_19, a_20, a_21, a_22, a_23, v_24, v_25, v_26, v_27, v_28, a_29, v_30, a_31, a_32, v_33, v_34, a_35, v_36, a_37, a_38, v_39, v_40, a_41, a_42, a_43, v_44, a_45, a_46, a_47, a_48, a_49, a_50, a_51, a_52, a_53, v_54, v_55, a_56, hfo_57, fa_58⟩ := un12 (hG _ mo0) ko0
  obtain ⟨ma_1, ka_1⟩ := fa12_0 fa_58
  refine tk_getP (D := (dC, dI)) (ci := 12) (v := .ref a_1) (C := RX12) (T := TX12) (N := 56) hx hb hU inlX12 hown hK hP mo0 hfo_57 rfl 0 (by decide) (hU _ wd_169) (fun _ h9 => h9) rfl dX12_isAnchored_1 ?_
  refine lv_sipush (v := 500) hx hb dX12_isAnchored_4 (by decide) ?_
  refine lv_iconst (v := 4) hx hb dX12_isAnchored_7 (by decide) ?_
  refine lv_iload_n hx hb dX12_isAnchored_8 rfl (lv_at hl 1 rfl) ?_
  refine lv_imul hx hb dX12_isAnchored_9 ?_
  refine lv_topi (fun x_59 ex_59 => ?_)
  have hx_59 : x_59.toInt = 4 * p1.toInt := by rw [ex_59, ml_I (by rw [ti_4]; omega) (by rw [ti_4]; omega), ti_4]
  have bx_59 : (0 ≤ x_59.toInt ∧ x_59.toInt ≤ 92) := by constructor <;> omega
  refine lv_iadd hx hb dX12_isAnchored_10 ?_
  refine lv_topi (fun x_60 ex_60 => ?_)
  have hx_60 : x_60.toInt = 500 + x_59.toInt := by rw [ex_60, ad_I (by rw [ti_500]; omega) (by rw [ti_500]; omega), ti_500]
  have bx_60 : (500 ≤ x_60.toInt ∧ x_60.toInt ≤ 592) := by constructor <;> omega
  refine lv_iload_n hx hb dX12_isAnchored_11 rfl (lv_at hl 2 rfl) ?_
  refine lv_iadd hx hb dX12_isAnchored_12 ?_
  refine lv_topi (fun x_61 ex_61 => ?_)
  have hx_61 : x_61.toInt = x_60.toInt + p2.toInt := by rw [ex_61, ad_I (by omega) (by omega)]
  have bx_61 : (500 ≤ x_61.toInt ∧ x_61.toInt ≤ 593) := by constructor <;> omega
  obtain ⟨g_63, hfo_62, hbg_63⟩ := un_575 (hG _ ma_1) ka_1
  refine tk_ildP hx hb hK hP 0 ma_1 hfo_62 rfl (vp_in_iff.mpr (by constructor <;> omega)) dX12_isAnchored_13 ?_
  refine lv_topi (fun x_64 ex_64 => ?_)
  have bx_64 : (0 ≤ x_64.toInt ∧ x_64.toInt ≤ 5) := by have hc9 := cl_I (i := x_61) (by omega); rw [ex_64]; exact hbg_63.2.2.2.2.2.2.2.2.2.2.2.2.2.2.2 _ (by omega) (by omega) (by omega)
  refine lv_iconst (v := 1) hx hb dX12_isAnchored_14 (by decide) ?_
  refine lv_icmp_ne (tgt := 22) hx hb dX12_isAnchored_15 (by decide) (fun c_65 => ?_) (fun c_65 => ?_)
  · skip
    rw [← Int32.toInt_inj, ti_1] at c_65
    refine lv_iconst (v := 0) hx hb dX12_isAnchored_22 (by decide) ?_
    exact W.zret (v := 0) (ty := .boolean) hx hb hr rfl (fun t ht hW => ⟨⟨0, f, rfl, ⟨rfl, (by decide)⟩, by rw [ht]; exact hP, va_K.moved hW.alike hK, pl_in hD⟩, hS.F ht⟩) hS.2.2 dX12_isAnchored_23
  · skip
    rw [← Int32.toInt_inj, ti_1] at c_65
    refine lv_iconst (v := 1) hx hb dX12_isAnchored_18 (by decide) ?_
    refine lv_goto (tgt := 23) hx hb dX12_isAnchored_19 (by decide) ?_
    exact W.zret (v := 1) (ty := .boolean) hx hb hr rfl (fun t ht hW => ⟨⟨1, f, rfl, ⟨rfl, (by decide)⟩, by rw [ht]; exact hP, va_K.moved hW.alike hK, pl_in hD⟩, hS.F ht⟩) hS.2.2 dX12_isAnchored_23
set_option maxHeartbeats 8000000 in
set_option maxRecDepth 100000 in
theorem s_X12_closed_k12 (l : Launch) (D : va_G) (cI cL cZ cR cG cH : ClassId) (Z : zT) (kd : Nat → Nat) (L : List Nat) (f : Nat → va_E) (hG : GI (okc cI cL cZ cR cG cH L kd) kd L f) (o0 : Nat) (mo0 : o0 ∈ L) (ko0 : kd o0 = 12) (p1 : Int32) (bp1 : (0 ≤ p1.toInt ∧ p1.toInt ≤ 23)) (p2 : Int32) (bp2 : (0 ≤ p2.toInt ∧ p2.toInt ≤ 1)) (p3 : Int32) (bp3 : (0 ≤ p3.toInt ∧ p3.toInt ≤ 63)) : mPI l D cI cL cZ cR cG cH Z yX12_closed cX12_closed 6 (some .int) 1 22 [.ref o0, .int p1, .int p2, .int p3] L f (fun (r : Int32) (f9 : Nat → va_E) => f = f9 ∧ (0 ≤ r.toInt ∧ r.toInt ≤ 63)) := by
  obtain ⟨dC, dI⟩ := D
  refine Met.ofW (cc := cX12_closed) (maxL := 6) (ret := (some .int)) (by decide) rfl ?_
  intro p e s m args below meth c s₁ B hml hv
  obtain ⟨rfl, hP, hK, hD0, hN, hZ⟩ := hv
  have hx := B.exec
  have hb := B.bytes
  have hr := B.returns
  have hU : ∀ w ∈ wsU, w.before _ s = true := fun w h => atoms_spec (ws := wU yX12_closed cX12_closed 6 (some .int)) B.pre w (List.mem_cons_of_mem _ h)
  have hown : s.vm.findClass RX12 = some m.cls := findClass_of_methodNamed B.named
  have hlocks := B.notSynchronized
  have hD := pl_in hD0
  have hS : va_S (fun q => q ∈ L) s.heap s.heap [] := va_S.rf
  have hl := lv_entry ([.ref o0, .int p1, .int p2, .int p3]) (n := 6) (Nat.le_of_ble_eq_true rfl)
  rw [lg_entry_eq]
  generalize (lg_sl ([.ref o0, .int p1, .int p2, .int p3]) ++ List.replicate (6 - (lg_sl ([.ref o0, .int p1, .int p2, .int p3])).length) Slot.unset).toArray = ls at hl ⊢
  have hl : lv_has ls 6 [(0, .ref o0), (1, .int p1), (2, .int p2), (3, .int p3)] := hl
  refine lv_iload_n hx hb dX12_closed_0 rfl (lv_at hl 3 rfl) ?_
  refine lv_istore (lv' := [(4, .int p3), (0, .ref o0), (1, .int p1), (2, .int p2), (3, .int p3)]) hx hb dX12_closed_1 hl (by decide) rfl (fun ls hl => ?_)
  refine lv_iconst (v := 0) hx hb dX12_closed_3 (by decide) ?_
  refine lv_istore (lv' := [(5, .int 0), (4, .int p3), (0, .ref o0), (1, .int p1), (2, .int p2), (3, .int p3)]) hx hb dX12_closed_4 hl (by decide) rfl (fun ls hl => ?_)
  have hloop_16 : ∀ (n : Nat), ∀ (y_17 : Int32), (0 ≤ y_17.toInt ∧ y_17.toInt ≤ 5) → ∀ (y_18 : Int32), (0 ≤ y_18.toInt ∧ y_18.toInt ≤ 63) → ∀ (H : Heap) (locs : List Loc), va_P (dC, dI) vwCl (va_pl L f) H → va_S (fun q => q ∈ L) s.heap H locs → 5 - y_17.toInt < (n : Int) → ∀ (ls : Array Slot), lv_has ls 6 [(5, .int y_17), (4, .int y_18), (0, .ref o0), (1, .int p1), (2, .int p2), (3, .int p3)] → W p l e (headSpec (wU yX12_closed cX12_closed 6 (some .int)) { frames := 1, cells := 0, slots := 0, locals := 22 }).room s m [.ref o0, .int p1, .int p2, .int p3].toArray below meth c H locs 0 0 (MQ below (va_Qi (fun (r : Int32) (f9 : Nat → va_E) => f = f9 ∧ (0 ≤ r.toInt ∧ r.toInt ≤ 63)) (qP (dC, dI) cI cL cZ cR cG cH L) (fun q => q ∈ L)) [.ref o0, .int p1, .int p2, .int p3].toArray s 0 0 (fun q => q ∈ L)) (F0 m 6 ls []) := by
    intro n
    induction n with
    | zero => intro y_17 by_17 y_18 by_18 H locs hP hS hmuhloop_16 ls hl; exfalso; omega
    | succ n ih_hloop_16 =>
      intro y_17 by_17 y_18 by_18 H locs hP hS hmuhloop_16 ls hl
      refine lv_iload hx hb dX12_closed_6 (lv_at hl 0 rfl) ?_
      refine lv_aload_n hx hb dX12_closed_8 rfl (lv_at hl 2 rfl) ?_
      refine lv_iload_n hx hb dX12_closed_9 rfl (lv_at hl 3 rfl) ?_
      refine lv_iload_n hx hb dX12_closed_10 rfl (lv_at hl 4 rfl) ?_
      obtain ⟨a_20, a_21, a_22, v_23, a_24, v_25, v_26, v_27, v_28, v_29, v_30, v_31, v_32, v_33, v_34, a_35, a_36, a_37, a_38, a_39, a_40, a_41, a_42, v_43, v_44, v_45, v_46, v_47, a_48, v_49, a_50, a_51, v_52, v_53, a_54, v_55, a_56, a_57, v_58, v_59, a_60, a_61, a_62, v_63, a_64, a_65, a_66, a_67, a_68, a_69, a_70, a_71, a_72, v_73, v_74, a_75, hfo_76, fa_77⟩ := un12 (hG _ mo0) ko0
      obtain ⟨ma_20, ka_20⟩ := fa12_0 fa_77
      refine tk_ViP (As := [.int p1, .int p2]) (rest := [.int y_17]) (n := 2) hx hb hml hown hU hN hZ (s_X12_itemsOf_k12 l (dC, dI) cI cL cZ cR cG cH Z kd L f hG o0 mo0 ko0 p1 (by constructor <;> omega) p2 (by constructor <;> omega)) wd_882 wd_883 wd_884 wd_5 wd_885 (by decide +kernel) ⟨Nat.le_of_ble_eq_true rfl, Nat.le_of_ble_eq_true rfl⟩ hK hP hD hS mo0 hfo_76 12 rfl rfl rfl hl.1 rfl (Nat.le_of_ble_eq_true rfl) dX12_closed_11 ⟨Nat.le_of_ble_eq_true rfl, Nat.le_of_ble_eq_true rfl⟩ (fun x_78 f_79 H locs hw hP hD hS => ?_)
      obtain ⟨rfl, bx_78⟩ := hw
      refine lv_icmp_ge (tgt := 71) hx hb dX12_closed_14 (by decide) (fun c_81 => ?_) (fun c_81 => ?_)
      · skip
        rw [Int32.le_iff_toInt_le] at c_81
        refine lv_iload hx hb dX12_closed_71 (lv_at hl 1 rfl) ?_
        exact W.iret (v := y_18) hx hb hr (fun t ht hW => ⟨⟨y_18, f, rfl, ⟨rfl, (by constructor <;> omega)⟩, by rw [ht]; exact hP, va_K.moved hW.alike hK, pl_in hD⟩, hS.F ht⟩) hS.2.2 dX12_closed_73
      · skip
        rw [Int32.le_iff_toInt_le] at c_81
        refine lv_iload hx hb dX12_closed_17 (lv_at hl 1 rfl) ?_
        refine lv_iload hx hb dX12_closed_19 (lv_at hl 0 rfl) ?_
        refine lv_ishr hx hb dX12_closed_21 ?_
        refine lv_topi (fun x_82 ex_82 => ?_)
        have bx_82 : ((-2147483648) ≤ x_82.toInt ∧ x_82.toInt ≤ 2147483647) := ⟨i32_lo _, i32_hi _⟩
        refine lv_iconst (v := 1) hx hb dX12_closed_22 (by decide) ?_
        refine lv_iand hx hb dX12_closed_23 ?_
        refine lv_topi (fun x_83 ex_83 => ?_)
        have bx_83 : (0 ≤ x_83.toInt ∧ x_83.toInt ≤ 1) := by rw [ex_83]; have h8 := an_C x_82 (m := 1) (by decide); rw [ti_1] at h8; exact h8
        refine lv_iconst (v := 1) hx hb dX12_closed_24 (by decide) ?_
        have hcut_85 : ∀ (y_84 : Int32), (0 ≤ y_84.toInt ∧ y_84.toInt ≤ 63) → ∀ (ls : Array Slot), lv_has ls 6 [(5, .int y_17), (4, .int y_84), (0, .ref o0), (1, .int p1), (2, .int p2), (3, .int p3)] → W p l e (headSpec (wU yX12_closed cX12_closed 6 (some .int)) { frames := 1, cells := 0, slots := 0, locals := 22 }).room s m [.ref o0, .int p1, .int p2, .int p3].toArray below meth c H locs 0 0 (MQ below (va_Qi (fun (r : Int32) (f9 : Nat → va_E) => f = f9 ∧ (0 ≤ r.toInt ∧ r.toInt ≤ 63)) (qP (dC, dI) cI cL cZ cR cG cH L) (fun q => q ∈ L)) [.ref o0, .int p1, .int p2, .int p3].toArray s 0 0 (fun q => q ∈ L)) (F0 m 65 ls []) := by
          intro y_84 by_84 ls hl
          obtain ⟨x_86, ex_86⟩ : ∃ y : Int32, y_17 + 1 = y := ⟨_, rfl⟩
          have hx_86 : x_86.toInt = y_17.toInt + 1 := by rw [← ex_86, ad_I (by rw [ti_1]; omega) (by rw [ti_1]; omega), ti_1]
          have bx_86 : (1 ≤ x_86.toInt ∧ x_86.toInt ≤ 5) := by constructor <;> omega
          refine lv_iinc (v := x_86) (lv' := [(5, .int x_86), (4, .int y_84), (0, .ref o0), (1, .int p1), (2, .int p2), (3, .int p3)]) hx hb dX12_closed_65 hl (k := 0) rfl ex_86 (by decide) rfl (fun ls hl => ?_)
          refine lv_goto (tgt := 6) hx hb dX12_closed_68 (by decide) ?_
          exact ih_hloop_16 x_86 (by constructor <;> omega) y_84 (by constructor <;> omega) _ _ hP hS (by omega) ls (lv_sub hl [0, 1, 2, 3, 4, 5] rfl)
        refine lv_icmp_ne (tgt := 65) hx hb dX12_closed_25 (by decide) (fun c_87 => ?_) (fun c_87 => ?_)
        · skip
          rw [← Int32.toInt_inj, ti_1] at c_87
          exact hcut_85 y_18 (by constructor <;> omega) ls (lv_sub hl [0, 1, 2, 3, 4, 5] rfl)
        · skip
          rw [← Int32.toInt_inj, ti_1] at c_87
          refine lv_aload_n hx hb dX12_closed_28 rfl (lv_at hl 2 rfl) ?_
          refine tk_getP (D := (dC, dI)) (ci := 12) (v := .ref a_20) (C := RX12) (T := TX12) (N := 56) hx hb hU inlX12 hown hK hP mo0 hfo_76 rfl 0 (by decide) (hU _ wd_169) (fun _ h9 => h9) rfl dX12_closed_29 ?_
          refine lv_sipush (v := 600) hx hb dX12_closed_32 (by decide) ?_
          refine lv_iconst (v := 4) hx hb dX12_closed_35 (by decide) ?_
          refine lv_bipush (v := 10) hx hb dX12_closed_36 (by decide) ?_
          refine lv_iload_n hx hb dX12_closed_38 rfl (lv_at hl 3 rfl) ?_
          refine lv_imul hx hb dX12_closed_39 ?_
          refine lv_topi (fun x_88 ex_88 => ?_)
          have hx_88 : x_88.toInt = 10 * p1.toInt := by rw [ex_88, ml_I (by rw [ti_10]; omega) (by rw [ti_10]; omega), ti_10]
          have bx_88 : (0 ≤ x_88.toInt ∧ x_88.toInt ≤ 230) := by constructor <;> omega
          refine lv_iconst (v := 5) hx hb dX12_closed_40 (by decide) ?_
          refine lv_iload_n hx hb dX12_closed_41 rfl (lv_at hl 4 rfl) ?_
          refine lv_imul hx hb dX12_closed_42 ?_
          refine lv_topi (fun x_89 ex_89 => ?_)
          have hx_89 : x_89.toInt = 5 * p2.toInt := by rw [ex_89, ml_I (by rw [ti_5]; omega) (by rw [ti_5]; omega), ti_5]
          have bx_89 : (0 ≤ x_89.toInt ∧ x_89.toInt ≤ 5) := by constructor <;> omega
          refine lv_iadd hx hb dX12_closed_43 ?_
          refine lv_topi (fun x_90 ex_90 => ?_)
          have hx_90 : x_90.toInt = x_88.toInt + x_89.toInt := by rw [ex_90, ad_I (by omega) (by omega)]
          have bx_90 : (0 ≤ x_90.toInt ∧ x_90.toInt ≤ 235) := by constructor <;> omega
          refine lv_iload hx hb dX12_closed_44 (lv_at hl 0 rfl) ?_
          refine lv_iadd hx hb dX12_closed_46 ?_
          refine lv_topi (fun x_91 ex_91 => ?_)
          have hx_91 : x_91.toInt = x_90.toInt + y_17.toInt := by rw [ex_91, ad_I (by omega) (by omega)]
          have bx_91 : (0 ≤ x_91.toInt ∧ x_91.toInt ≤ 239) := by constructor <;> omega
          refine lv_imul hx hb dX12_closed_47 ?_
          refine lv_topi (fun x_92 ex_92 => ?_)
          have hx_92 : x_92.toInt = 4 * x_91.toInt := by rw [ex_92, ml_I (by rw [ti_4]; omega) (by rw [ti_4]; omega), ti_4]
          have bx_92 : (0 ≤ x_92.toInt ∧ x_92.toInt ≤ 956) := by constructor <;> omega
          refine lv_iadd hx hb dX12_closed_48 ?_
          refine lv_topi (fun x_93 ex_93 => ?_)
          have hx_93 : x_93.toInt = 600 + x_92.toInt := by rw [ex_93, ad_I (by rw [ti_600]; omega) (by rw [ti_600]; omega), ti_600]
          have bx_93 : (600 ≤ x_93.toInt ∧ x_93.toInt ≤ 1556) := by constructor <;> omega
          refine lv_iconst (v := 3) hx hb dX12_closed_49 (by decide) ?_
          refine lv_iadd hx hb dX12_closed_50 ?_
          refine lv_topi (fun x_94 ex_94 => ?_)
          have hx_94 : x_94.toInt = x_93.toInt + 3 := by rw [ex_94, ad_I (by rw [ti_3]; omega) (by rw [ti_3]; omega), ti_3]
          have bx_94 : (603 ≤ x_94.toInt ∧ x_94.toInt ≤ 1559) := by constructor <;> omega
          obtain ⟨g_96, hfo_95, hbg_96⟩ := un_575 (hG _ ma_20) ka_20
          refine tk_ildP hx hb hK hP 0 ma_20 hfo_95 rfl (vp_in_iff.mpr (by constructor <;> omega)) dX12_closed_51 ?_
          refine lv_topi (fun x_97 ex_97 => ?_)
          have bx_97 : ((-2147483648) ≤ x_97.toInt ∧ x_97.toInt ≤ 2147483647) := ⟨i32_lo _, i32_hi _⟩
          refine lv_iconst (v := 1) hx hb dX12_closed_52 (by decide) ?_
          refine lv_icmp_ne (tgt := 65) hx hb dX12_closed_53 (by decide) (fun c_98 => ?_) (fun c_98 => ?_)
          · skip
            rw [← Int32.toInt_inj, ti_1] at c_98
            exact hcut_85 y_18 (by constructor <;> omega) ls (lv_sub hl [0, 1, 2, 3, 4, 5] rfl)
          · skip
            rw [← Int32.toInt_inj, ti_1] at c_98
            refine lv_iload hx hb dX12_closed_56 (lv_at hl 1 rfl) ?_
            refine lv_iconst (v := 2) hx hb dX12_closed_58 (by decide) ?_
            refine lv_iload hx hb dX12_closed_59 (lv_at hl 0 rfl) ?_
            refine lv_ishl hx hb dX12_closed_61 ?_
            refine lv_topi (fun x_99 ex_99 => ?_)
            have bx_99 : (2 ≤ x_99.toInt ∧ x_99.toInt ≤ 32) := by rw [ex_99]; exact sl_2_4 (by constructor <;> omega)
            refine lv_ior hx hb dX12_closed_62 ?_
            refine lv_topi (fun x_100 ex_100 => ?_)
            have bx_100 : (0 ≤ x_100.toInt ∧ x_100.toInt ≤ 63) := by rw [ex_100]; exact or_K 6 (by decide) (by constructor <;> omega) (by constructor <;> omega)
            refine lv_istore (lv' := [(4, .int x_100), (5, .int y_17), (0, .ref o0), (1, .int p1), (2, .int p2), (3, .int p3)]) hx hb dX12_closed_63 hl (by decide) rfl (fun ls hl => ?_)
            exact hcut_85 x_100 (by constructor <;> omega) ls (lv_sub hl [1, 0, 2, 3, 4, 5] rfl)
  exact hloop_16 6 0 (by decide) p3 (by constructor <;> omega) _ _ hP hS (by (try rw [ti_0]) <;> omega) ls hl
set_option maxHeartbeats 8000000 in
set_option maxRecDepth 100000 in
theorem s_X12_goesOn_k12 (l : Launch) (D : va_G) (cI cL cZ cR cG cH : ClassId) (Z : zT) (kd : Nat → Nat) (L : List Nat) (f : Nat → va_E) (hG : GI (okc cI cL cZ cR cG cH L kd) kd L f) (o0 : Nat) (mo0 : o0 ∈ L) (ko0 : kd o0 = 12) (p1 : Int32) (bp1 : (0 ≤ p1.toInt ∧ p1.toInt ≤ 23)) (p2 : Int32) (bp2 : (0 ≤ p2.toInt ∧ p2.toInt ≤ 1)) (p3 : Int32) (p4 : Int32) : mPI l D cI cL cZ cR cG cH Z yX12_goesOn cX12_goesOn 10 (some .int) 2 47 [.ref o0, .int p1, .int p2, .int p3, .int p4] L f (fun (r : Int32) (f9 : Nat → va_E) => f = f9 ∧ (0 ≤ r.toInt ∧ r.toInt ≤ 63)) := by
  obtain ⟨dC, dI⟩ := D
  refine Met.ofW (cc := cX12_goesOn) (maxL := 10) (ret := (some .int)) (by decide) rfl ?_
  intro p e s m args below meth c s₁ B hml hv
  obtain ⟨rfl, hP, hK, hD0, hN, hZ⟩ := hv
  have hx := B.exec
  have hb := B.bytes
  have hr := B.returns
  have hU : ∀ w ∈ wsU, w.before _ s = true := fun w h => atoms_spec (ws := wU yX12_goesOn cX12_goesOn 10 (some .int)) B.pre w (List.mem_cons_of_mem _ h)
  have hown : s.vm.findClass RX12 = some m.cls := findClass_of_methodNamed B.named
  have hlocks := B.notSynchronized
  have hD := pl_in hD0
  have hS : va_S (fun q => q ∈ L) s.heap s.heap [] := va_S.rf
  have hl := lv_entry ([.ref o0, .int p1, .int p2, .int p3, .int p4]) (n := 10) (Nat.le_of_ble_eq_true rfl)
  rw [lg_entry_eq]
  generalize (lg_sl ([.ref o0, .int p1, .int p2, .int p3, .int p4]) ++ List.replicate (10 - (lg_sl ([.ref o0, .int p1, .int p2, .int p3, .int p4])).length) Slot.unset).toArray = ls at hl ⊢
  have hl : lv_has ls 10 [(0, .ref o0), (1, .int p1), (2, .int p2), (3, .int p3), (4, .int p4)] := hl
  have bp3 : ((-2147483648) ≤ p3.toInt ∧ p3.toInt ≤ 2147483647) := ⟨i32_lo _, i32_hi _⟩
  have bp4 : ((-2147483648) ≤ p4.toInt ∧ p4.toInt ≤ 2147483647) := ⟨i32_lo _, i32_hi _⟩
  refine lv_iload hx hb dX12_goesOn_0 (lv_at hl 4 rfl) ?_
  refine lv_bipush (v := 9) hx hb dX12_goesOn_2 (by decide) ?_
  refine lv_idiv hx hb dX12_goesOn_4 (by decide) ?_
  refine lv_topi (fun x_1 ex_1 => ?_)
  have bx_1 : ((-2147483648) ≤ x_1.toInt ∧ x_1.toInt ≤ 2147483647) := ⟨i32_lo _, i32_hi _⟩
  refine lv_istore (lv' := [(5, .int x_1), (0, .ref o0), (1, .int p1), (2, .int p2), (3, .int p3), (4, .int p4)]) hx hb dX12_goesOn_5 hl (by decide) rfl (fun ls hl => ?_)
  refine lv_iload hx hb dX12_goesOn_7 (lv_at hl 5 rfl) ?_
  refine lv_bipush (v := 9) hx hb dX12_goesOn_9 (by decide) ?_
  refine lv_irem hx hb dX12_goesOn_11 (by decide) ?_
  refine lv_topi (fun x_2 ex_2 => ?_)
  have bx_2 : ((-2147483648) ≤ x_2.toInt ∧ x_2.toInt ≤ 2147483647) := ⟨i32_lo _, i32_hi _⟩
  refine lv_istore (lv' := [(6, .int x_2), (5, .int x_1), (0, .ref o0), (1, .int p1), (2, .int p2), (3, .int p3), (4, .int p4)]) hx hb dX12_goesOn_12 hl (by decide) rfl (fun ls hl => ?_)
  refine lv_iconst (v := 0) hx hb dX12_goesOn_14 (by decide) ?_
  refine lv_istore (lv' := [(7, .int 0), (6, .int x_2), (5, .int x_1), (0, .ref o0), (1, .int p1), (2, .int p2), (3, .int p3), (4, .int p4)]) hx hb dX12_goesOn_15 hl (by decide) rfl (fun ls hl => ?_)
  refine lv_iconst (v := 0) hx hb dX12_goesOn_17 (by decide) ?_
  refine lv_istore (lv' := [(8, .int 0), (7, .int 0), (6, .int x_2), (5, .int x_1), (0, .ref o0), (1, .int p1), (2, .int p2), (3, .int p3), (4, .int p4)]) hx hb dX12_goesOn_18 hl (by decide) rfl (fun ls hl => ?_)
  have hloop_18 : ∀ (n : Nat), ∀ (y_19 : Int32), (0 ≤ y_19.toInt ∧ y_19.toInt ≤ 5) → ∀ (y_20 : Int32), (0 ≤ y_20.toInt ∧ y_20.toInt ≤ 63) → ∀ (H : Heap) (locs : List Loc), va_P (dC, dI) vwCl (va_pl L f) H → va_S (fun q => q ∈ L) s.heap H locs → 5 - y_19.toInt < (n : Int) → ∀ (ls : Array Slot), lv_has ls 10 [(8, .int y_19), (7, .int y_20), (6, .int x_2), (5, .int x_1), (0, .ref o0), (1, .int p1), (2, .int p2), (3, .int p3), (4, .int p4)] → W p l e (headSpec (wU yX12_goesOn cX12_goesOn 10 (some .int)) { frames := 2, cells := 0, slots := 0, locals := 47 }).room s m [.ref o0, .int p1, .int p2, .int p3, .int p4].toArray below meth c H locs 0 0 (MQ below (va_Qi (fun (r : Int32) (f9 : Nat → va_E) => f = f9 ∧ (0 ≤ r.toInt ∧ r.toInt ≤ 63)) (qP (dC, dI) cI cL cZ cR cG cH L) (fun q => q ∈ L)) [.ref o0, .int p1, .int p2, .int p3, .int p4].toArray s 0 0 (fun q => q ∈ L)) (F0 m 20 ls []) := by
    intro n
    induction n with
    | zero => intro y_19 by_19 y_20 by_20 H locs hP hS hmuhloop_18 ls hl; exfalso; omega
    | succ n ih_hloop_18 =>
      intro y_19 by_19 y_20 by_20 H locs hP hS hmuhloop_18 ls hl
      refine lv_iload hx hb dX12_goesOn_20 (lv_at hl 0 rfl) ?_
      refine lv_aload_n hx hb dX12_goesOn_22 rfl (lv_at hl 4 rfl) ?_
      refine lv_iload_n hx hb dX12_goesOn_23 rfl (lv_at hl 5 rfl) ?_
      refine lv_iload_n hx hb dX12_goesOn_24 rfl (lv_at hl 6 rfl) ?_
      obtain ⟨a_22, a_23, a_24, v_25, a_26, v_27, v_28, v_29, v_30, v_31, v_32, v_33, v_34, v_35, v_36, a_37, a_38, a_39, a_40, a_41, a_42, a_43, a_44, v_45, v_46, v_47, v_48, v_49, a_50, v_51, a_52, a_53, v_54, v_55, a_56, v_57, a_58, a_59, v_60, v_61, a_62, a_63, a_64, v_65, a_66, a_67, a_68, a_69, a_70, a_71, a_72, a_73, a_74, v_75, v_76, a_77, hfo_78, fa_79⟩ := un12 (hG _ mo0) ko0
      obtain ⟨ma_22, ka_22⟩ := fa12_0 fa_79
      refine tk_ViP (As := [.int p1, .int p2]) (rest := [.int y_19]) (n := 2) hx hb hml hown hU hN hZ (s_X12_itemsOf_k12 l (dC, dI) cI cL cZ cR cG cH Z kd L f hG o0 mo0 ko0 p1 (by constructor <;> omega) p2 (by constructor <;> omega)) wd_882 wd_883 wd_884 wd_5 wd_885 (by decide +kernel) ⟨Nat.le_of_ble_eq_true rfl, Nat.le_of_ble_eq_true rfl⟩ hK hP hD hS mo0 hfo_78 12 rfl rfl rfl hl.1 rfl (Nat.le_of_ble_eq_true rfl) dX12_goesOn_25 ⟨Nat.le_of_ble_eq_true rfl, Nat.le_of_ble_eq_true rfl⟩ (fun x_80 f_81 H locs hw hP hD hS => ?_)
      obtain ⟨rfl, bx_80⟩ := hw
      refine lv_icmp_ge (tgt := 149) hx hb dX12_goesOn_28 (by decide) (fun c_83 => ?_) (fun c_83 => ?_)
      · skip
        rw [Int32.le_iff_toInt_le] at c_83
        refine lv_aload_n hx hb dX12_goesOn_149 rfl (lv_at hl 4 rfl) ?_
        refine lv_iload_n hx hb dX12_goesOn_150 rfl (lv_at hl 5 rfl) ?_
        refine lv_iload_n hx hb dX12_goesOn_151 rfl (lv_at hl 6 rfl) ?_
        refine lv_iload hx hb dX12_goesOn_152 (lv_at hl 1 rfl) ?_
        refine tk_ViP (As := [.int p1, .int p2, .int y_20]) (rest := []) (n := 3) hx hb hml hown hU hN hZ (s_X12_closed_k12 l (dC, dI) cI cL cZ cR cG cH Z kd L f hG o0 mo0 ko0 p1 (by constructor <;> omega) p2 (by constructor <;> omega) y_20 (by constructor <;> omega)) wd_878 wd_879 wd_880 wd_5 wd_881 (by decide +kernel) ⟨Nat.le_of_ble_eq_true rfl, Nat.le_of_ble_eq_true rfl⟩ hK hP hD hS mo0 hfo_78 12 rfl rfl rfl hl.1 rfl (Nat.le_of_ble_eq_true rfl) dX12_goesOn_154 ⟨Nat.le_of_ble_eq_true rfl, Nat.le_of_ble_eq_true rfl⟩ (fun x_84 f_85 H locs hw hP hD hS => ?_)
        obtain ⟨rfl, bx_84⟩ := hw
        exact W.iret (v := x_84) hx hb hr (fun t ht hW => ⟨⟨x_84, f, rfl, ⟨rfl, (by constructor <;> omega)⟩, by rw [ht]; exact hP, va_K.moved hW.alike hK, pl_in hD⟩, hS.F ht⟩) hS.2.2 dX12_goesOn_157
      · skip
        rw [Int32.le_iff_toInt_le] at c_83
        refine lv_sipush (v := 600) hx hb dX12_goesOn_31 (by decide) ?_
        refine lv_iconst (v := 4) hx hb dX12_goesOn_34 (by decide) ?_
        refine lv_bipush (v := 10) hx hb dX12_goesOn_35 (by decide) ?_
        refine lv_iload_n hx hb dX12_goesOn_37 rfl (lv_at hl 5 rfl) ?_
        refine lv_imul hx hb dX12_goesOn_38 ?_
        refine lv_topi (fun x_87 ex_87 => ?_)
        have hx_87 : x_87.toInt = 10 * p1.toInt := by rw [ex_87, ml_I (by rw [ti_10]; omega) (by rw [ti_10]; omega), ti_10]
        have bx_87 : (0 ≤ x_87.toInt ∧ x_87.toInt ≤ 230) := by constructor <;> omega
        refine lv_iconst (v := 5) hx hb dX12_goesOn_39 (by decide) ?_
        refine lv_iload_n hx hb dX12_goesOn_40 rfl (lv_at hl 6 rfl) ?_
        refine lv_imul hx hb dX12_goesOn_41 ?_
        refine lv_topi (fun x_88 ex_88 => ?_)
        have hx_88 : x_88.toInt = 5 * p2.toInt := by rw [ex_88, ml_I (by rw [ti_5]; omega) (by rw [ti_5]; omega), ti_5]
        have bx_88 : (0 ≤ x_88.toInt ∧ x_88.toInt ≤ 5) := by constructor <;> omega
        refine lv_iadd hx hb dX12_goesOn_42 ?_
        refine lv_topi (fun x_89 ex_89 => ?_)
        have hx_89 : x_89.toInt = x_87.toInt + x_88.toInt := by rw [ex_89, ad_I (by omega) (by omega)]
        have bx_89 : (0 ≤ x_89.toInt ∧ x_89.toInt ≤ 235) := by constructor <;> omega
        refine lv_iload hx hb dX12_goesOn_43 (lv_at hl 0 rfl) ?_
        refine lv_iadd hx hb dX12_goesOn_45 ?_
        refine lv_topi (fun x_90 ex_90 => ?_)
        have hx_90 : x_90.toInt = x_89.toInt + y_19.toInt := by rw [ex_90, ad_I (by omega) (by omega)]
        have bx_90 : (0 ≤ x_90.toInt ∧ x_90.toInt ≤ 239) := by constructor <;> omega
        refine lv_imul hx hb dX12_goesOn_46 ?_
        refine lv_topi (fun x_91 ex_91 => ?_)
        have hx_91 : x_91.toInt = 4 * x_90.toInt := by rw [ex_91, ml_I (by rw [ti_4]; omega) (by rw [ti_4]; omega), ti_4]
        have bx_91 : (0 ≤ x_91.toInt ∧ x_91.toInt ≤ 956) := by constructor <;> omega
        refine lv_iadd hx hb dX12_goesOn_47 ?_
        refine lv_topi (fun x_92 ex_92 => ?_)
        have hx_92 : x_92.toInt = 600 + x_91.toInt := by rw [ex_92, ad_I (by rw [ti_600]; omega) (by rw [ti_600]; omega), ti_600]
        have bx_92 : (600 ≤ x_92.toInt ∧ x_92.toInt ≤ 1556) := by constructor <;> omega
        refine lv_istore (lv' := [(9, .int x_92), (8, .int y_19), (7, .int y_20), (6, .int x_2), (5, .int x_1), (0, .ref o0), (1, .int p1), (2, .int p2), (3, .int p3), (4, .int p4)]) hx hb dX12_goesOn_48 hl (by decide) rfl (fun ls hl => ?_)
        refine lv_iload_n hx hb dX12_goesOn_50 rfl (lv_at hl 8 rfl) ?_
        refine lv_iload hx hb dX12_goesOn_51 (lv_at hl 1 rfl) ?_
        refine lv_ishr hx hb dX12_goesOn_53 ?_
        refine lv_topi (fun x_93 ex_93 => ?_)
        have bx_93 : ((-2147483648) ≤ x_93.toInt ∧ x_93.toInt ≤ 2147483647) := ⟨i32_lo _, i32_hi _⟩
        refine lv_iconst (v := 1) hx hb dX12_goesOn_54 (by decide) ?_
        refine lv_iand hx hb dX12_goesOn_55 ?_
        refine lv_topi (fun x_94 ex_94 => ?_)
        have bx_94 : (0 ≤ x_94.toInt ∧ x_94.toInt ≤ 1) := by rw [ex_94]; have h8 := an_C x_93 (m := 1) (by decide); rw [ti_1] at h8; exact h8
        have hcut_96 : ∀ (y_95 : Int32), (0 ≤ y_95.toInt ∧ y_95.toInt ≤ 63) → ∀ (ls : Array Slot), lv_has ls 10 [(9, .int x_92), (8, .int y_19), (7, .int y_95), (6, .int x_2), (5, .int x_1), (0, .ref o0), (1, .int p1), (2, .int p2), (3, .int p3), (4, .int p4)] → W p l e (headSpec (wU yX12_goesOn cX12_goesOn 10 (some .int)) { frames := 2, cells := 0, slots := 0, locals := 47 }).room s m [.ref o0, .int p1, .int p2, .int p3, .int p4].toArray below meth c H locs 0 0 (MQ below (va_Qi (fun (r : Int32) (f9 : Nat → va_E) => f = f9 ∧ (0 ≤ r.toInt ∧ r.toInt ≤ 63)) (qP (dC, dI) cI cL cZ cR cG cH L) (fun q => q ∈ L)) [.ref o0, .int p1, .int p2, .int p3, .int p4].toArray s 0 0 (fun q => q ∈ L)) (F0 m 143 ls []) := by
          intro y_95 by_95 ls hl
          obtain ⟨x_97, ex_97⟩ : ∃ y : Int32, y_19 + 1 = y := ⟨_, rfl⟩
          have hx_97 : x_97.toInt = y_19.toInt + 1 := by rw [← ex_97, ad_I (by rw [ti_1]; omega) (by rw [ti_1]; omega), ti_1]
          have bx_97 : (1 ≤ x_97.toInt ∧ x_97.toInt ≤ 5) := by constructor <;> omega
          refine lv_iinc (v := x_97) (lv' := [(8, .int x_97), (9, .int x_92), (7, .int y_95), (6, .int x_2), (5, .int x_1), (0, .ref o0), (1, .int p1), (2, .int p2), (3, .int p3), (4, .int p4)]) hx hb dX12_goesOn_143 hl (k := 1) rfl ex_97 (by decide) rfl (fun ls hl => ?_)
          refine lv_goto (tgt := 20) hx hb dX12_goesOn_146 (by decide) ?_
          exact ih_hloop_18 x_97 (by constructor <;> omega) y_95 (by constructor <;> omega) _ _ hP hS (by omega) ls (lv_sub hl [0, 2, 3, 4, 5, 6, 7, 8, 9] rfl)
        refine lv_if_eq (tgt := 143) hx hb dX12_goesOn_56 (by decide) (fun c_98 => ?_) (fun c_98 => ?_)
        · skip
          rw [← Int32.toInt_inj, ti_0] at c_98
          exact hcut_96 y_20 (by constructor <;> omega) ls (lv_sub hl [0, 1, 2, 3, 4, 5, 6, 7, 8, 9] rfl)
        · skip
          rw [← Int32.toInt_inj, ti_0] at c_98
          refine lv_aload_n hx hb dX12_goesOn_59 rfl (lv_at hl 5 rfl) ?_
          refine tk_getP (D := (dC, dI)) (ci := 12) (v := .ref a_22) (C := RX12) (T := TX12) (N := 56) hx hb hU inlX12 hown hK hP mo0 hfo_78 rfl 0 (by decide) (hU _ wd_169) (fun _ h9 => h9) rfl dX12_goesOn_60 ?_
          refine lv_iload hx hb dX12_goesOn_63 (lv_at hl 0 rfl) ?_
          obtain ⟨g_100, hfo_99, hbg_100⟩ := un_575 (hG _ ma_22) ka_22
          refine tk_ildP hx hb hK hP 0 ma_22 hfo_99 rfl (vp_in_iff.mpr (by constructor <;> omega)) dX12_goesOn_65 ?_
          refine lv_topi (fun x_101 ex_101 => ?_)
          have bx_101 : ((-2147483648) ≤ x_101.toInt ∧ x_101.toInt ≤ 2147483647) := ⟨i32_lo _, i32_hi _⟩
          refine lv_iload hx hb dX12_goesOn_66 (lv_at hl 4 rfl) ?_
          refine lv_ishr hx hb dX12_goesOn_68 ?_
          refine lv_topi (fun x_102 ex_102 => ?_)
          have bx_102 : ((-2147483648) ≤ x_102.toInt ∧ x_102.toInt ≤ 2147483647) := ⟨i32_lo _, i32_hi _⟩
          refine lv_iconst (v := 1) hx hb dX12_goesOn_69 (by decide) ?_
          refine lv_iand hx hb dX12_goesOn_70 ?_
          refine lv_topi (fun x_103 ex_103 => ?_)
          have bx_103 : (0 ≤ x_103.toInt ∧ x_103.toInt ≤ 1) := by rw [ex_103]; have h8 := an_C x_102 (m := 1) (by decide); rw [ti_1] at h8; exact h8
          refine lv_if_eq (tgt := 143) hx hb dX12_goesOn_71 (by decide) (fun c_104 => ?_) (fun c_104 => ?_)
          · skip
            rw [← Int32.toInt_inj, ti_0] at c_104
            exact hcut_96 y_20 (by constructor <;> omega) ls (lv_sub hl [0, 1, 2, 3, 4, 5, 6, 7, 8, 9] rfl)
          · skip
            rw [← Int32.toInt_inj, ti_0] at c_104
            refine lv_aload_n hx hb dX12_goesOn_74 rfl (lv_at hl 5 rfl) ?_
            refine tk_getP (D := (dC, dI)) (ci := 12) (v := .ref a_22) (C := RX12) (T := TX12) (N := 56) hx hb hU inlX12 hown hK hP mo0 hfo_78 rfl 0 (by decide) (hU _ wd_169) (fun _ h9 => h9) rfl dX12_goesOn_75 ?_
            refine lv_iload hx hb dX12_goesOn_78 (lv_at hl 0 rfl) ?_
            refine lv_iconst (v := 1) hx hb dX12_goesOn_80 (by decide) ?_
            refine lv_iadd hx hb dX12_goesOn_81 ?_
            refine lv_topi (fun x_105 ex_105 => ?_)
            have hx_105 : x_105.toInt = x_92.toInt + 1 := by rw [ex_105, ad_I (by rw [ti_1]; omega) (by rw [ti_1]; omega), ti_1]
            have bx_105 : (601 ≤ x_105.toInt ∧ x_105.toInt ≤ 1557) := by constructor <;> omega
            refine tk_ildP hx hb hK hP 0 ma_22 hfo_99 rfl (vp_in_iff.mpr (by constructor <;> omega)) dX12_goesOn_82 ?_
            refine lv_topi (fun x_106 ex_106 => ?_)
            have bx_106 : ((-2147483648) ≤ x_106.toInt ∧ x_106.toInt ≤ 2147483647) := ⟨i32_lo _, i32_hi _⟩
            refine lv_iload hx hb dX12_goesOn_83 (lv_at hl 3 rfl) ?_
            refine lv_ishr hx hb dX12_goesOn_85 ?_
            refine lv_topi (fun x_107 ex_107 => ?_)
            have bx_107 : ((-2147483648) ≤ x_107.toInt ∧ x_107.toInt ≤ 2147483647) := ⟨i32_lo _, i32_hi _⟩
            refine lv_iconst (v := 1) hx hb dX12_goesOn_86 (by decide) ?_
            refine lv_iand hx hb dX12_goesOn_87 ?_
            refine lv_topi (fun x_108 ex_108 => ?_)
            have bx_108 : (0 ≤ x_108.toInt ∧ x_108.toInt ≤ 1) := by rw [ex_108]; have h8 := an_C x_107 (m := 1) (by decide); rw [ti_1] at h8; exact h8
            refine lv_if_eq (tgt := 143) hx hb dX12_goesOn_88 (by decide) (fun c_109 => ?_) (fun c_109 => ?_)
            · skip
              rw [← Int32.toInt_inj, ti_0] at c_109
              exact hcut_96 y_20 (by constructor <;> omega) ls (lv_sub hl [0, 1, 2, 3, 4, 5, 6, 7, 8, 9] rfl)
            · skip
              rw [← Int32.toInt_inj, ti_0] at c_109
              refine lv_aload_n hx hb dX12_goesOn_91 rfl (lv_at hl 5 rfl) ?_
              refine tk_getP (D := (dC, dI)) (ci := 12) (v := .ref a_22) (C := RX12) (T := TX12) (N := 56) hx hb hU inlX12 hown hK hP mo0 hfo_78 rfl 0 (by decide) (hU _ wd_169) (fun _ h9 => h9) rfl dX12_goesOn_92 ?_
              refine lv_iload hx hb dX12_goesOn_95 (lv_at hl 0 rfl) ?_
              refine lv_iconst (v := 2) hx hb dX12_goesOn_97 (by decide) ?_
              refine lv_iadd hx hb dX12_goesOn_98 ?_
              refine lv_topi (fun x_110 ex_110 => ?_)
              have hx_110 : x_110.toInt = x_92.toInt + 2 := by rw [ex_110, ad_I (by rw [ti_2]; omega) (by rw [ti_2]; omega), ti_2]
              have bx_110 : (602 ≤ x_110.toInt ∧ x_110.toInt ≤ 1558) := by constructor <;> omega
              refine tk_ildP hx hb hK hP 0 ma_22 hfo_99 rfl (vp_in_iff.mpr (by constructor <;> omega)) dX12_goesOn_99 ?_
              refine lv_topi (fun x_111 ex_111 => ?_)
              have bx_111 : ((-2147483648) ≤ x_111.toInt ∧ x_111.toInt ≤ 2147483647) := ⟨i32_lo _, i32_hi _⟩
              refine lv_iconst (v := 1) hx hb dX12_goesOn_100 (by decide) ?_
              refine lv_icmp_ne (tgt := 114) hx hb dX12_goesOn_101 (by decide) (fun c_112 => ?_) (fun c_112 => ?_)
              · skip
                rw [← Int32.toInt_inj, ti_1] at c_112
                refine lv_iload hx hb dX12_goesOn_114 (lv_at hl 2 rfl) ?_
                refine lv_aload_n hx hb dX12_goesOn_116 rfl (lv_at hl 5 rfl) ?_
                refine tk_getP (D := (dC, dI)) (ci := 12) (v := .ref a_22) (C := RX12) (T := TX12) (N := 56) hx hb hU inlX12 hown hK hP mo0 hfo_78 rfl 0 (by decide) (hU _ wd_169) (fun _ h9 => h9) rfl dX12_goesOn_117 ?_
                refine lv_iload hx hb dX12_goesOn_120 (lv_at hl 0 rfl) ?_
                refine lv_iconst (v := 3) hx hb dX12_goesOn_122 (by decide) ?_
                refine lv_iadd hx hb dX12_goesOn_123 ?_
                refine lv_topi (fun x_113 ex_113 => ?_)
                have hx_113 : x_113.toInt = x_92.toInt + 3 := by rw [ex_113, ad_I (by rw [ti_3]; omega) (by rw [ti_3]; omega), ti_3]
                have bx_113 : (603 ≤ x_113.toInt ∧ x_113.toInt ≤ 1559) := by constructor <;> omega
                refine tk_ildP hx hb hK hP 0 ma_22 hfo_99 rfl (vp_in_iff.mpr (by constructor <;> omega)) dX12_goesOn_124 ?_
                refine lv_topi (fun x_114 ex_114 => ?_)
                have bx_114 : ((-2147483648) ≤ x_114.toInt ∧ x_114.toInt ≤ 2147483647) := ⟨i32_lo _, i32_hi _⟩
                refine lv_iconst (v := 1) hx hb dX12_goesOn_125 (by decide) ?_
                have hcut_116 : ∀ (y_115 : Int32), (1 ≤ y_115.toInt ∧ y_115.toInt ≤ 32) → ∀ (ls : Array Slot), lv_has ls 10 [(9, .int x_92), (8, .int y_19), (7, .int y_20), (6, .int x_2), (5, .int x_1), (0, .ref o0), (1, .int p1), (2, .int p2), (3, .int p3), (4, .int p4)] → W p l e (headSpec (wU yX12_goesOn cX12_goesOn 10 (some .int)) { frames := 2, cells := 0, slots := 0, locals := 47 }).room s m [.ref o0, .int p1, .int p2, .int p3, .int p4].toArray below meth c H locs 0 0 (MQ below (va_Qi (fun (r : Int32) (f9 : Nat → va_E) => f = f9 ∧ (0 ≤ r.toInt ∧ r.toInt ≤ 63)) (qP (dC, dI) cI cL cZ cR cG cH L) (fun q => q ∈ L)) [.ref o0, .int p1, .int p2, .int p3, .int p4].toArray s 0 0 (fun q => q ∈ L)) (F0 m 140 ls [.int y_115, .int y_20]) := by
                  intro y_115 by_115 ls hl
                  refine lv_ior hx hb dX12_goesOn_140 ?_
                  refine lv_topi (fun x_117 ex_117 => ?_)
                  have bx_117 : (0 ≤ x_117.toInt ∧ x_117.toInt ≤ 63) := by rw [ex_117]; exact or_K 6 (by decide) (by constructor <;> omega) (by constructor <;> omega)
                  refine lv_istore (lv' := [(7, .int x_117), (9, .int x_92), (8, .int y_19), (6, .int x_2), (5, .int x_1), (0, .ref o0), (1, .int p1), (2, .int p2), (3, .int p3), (4, .int p4)]) hx hb dX12_goesOn_141 hl (by decide) rfl (fun ls hl => ?_)
                  exact hcut_96 x_117 (by constructor <;> omega) ls (lv_sub hl [1, 2, 0, 3, 4, 5, 6, 7, 8, 9] rfl)
                refine lv_icmp_ne (tgt := 136) hx hb dX12_goesOn_126 (by decide) (fun c_118 => ?_) (fun c_118 => ?_)
                · skip
                  rw [← Int32.toInt_inj, ti_1] at c_118
                  refine lv_iconst (v := 2) hx hb dX12_goesOn_136 (by decide) ?_
                  refine lv_iload hx hb dX12_goesOn_137 (lv_at hl 1 rfl) ?_
                  refine lv_ishl hx hb dX12_goesOn_139 ?_
                  refine lv_topi (fun x_119 ex_119 => ?_)
                  have bx_119 : (2 ≤ x_119.toInt ∧ x_119.toInt ≤ 32) := by rw [ex_119]; exact sl_2_4 (by constructor <;> omega)
                  exact hcut_116 x_119 (by constructor <;> omega) ls (lv_sub hl [0, 1, 2, 3, 4, 5, 6, 7, 8, 9] rfl)
                · skip
                  rw [← Int32.toInt_inj, ti_1] at c_118
                  refine lv_iconst (v := 1) hx hb dX12_goesOn_129 (by decide) ?_
                  refine lv_iload hx hb dX12_goesOn_130 (lv_at hl 1 rfl) ?_
                  refine lv_ishl hx hb dX12_goesOn_132 ?_
                  refine lv_topi (fun x_120 ex_120 => ?_)
                  have bx_120 : (1 ≤ x_120.toInt ∧ x_120.toInt ≤ 32) := by rw [ex_120]; exact sl_1_5 (by constructor <;> omega)
                  refine lv_goto (tgt := 140) hx hb dX12_goesOn_133 (by decide) ?_
                  exact hcut_116 x_120 (by constructor <;> omega) ls (lv_sub hl [0, 1, 2, 3, 4, 5, 6, 7, 8, 9] rfl)
              · skip
                rw [← Int32.toInt_inj, ti_1] at c_112
                refine lv_iload hx hb dX12_goesOn_104 (lv_at hl 4 rfl) ?_
                refine lv_iload hx hb dX12_goesOn_106 (lv_at hl 3 rfl) ?_
                refine lv_icmp_eq (tgt := 114) hx hb dX12_goesOn_108 (by decide) (fun c_121 => ?_) (fun c_121 => ?_)
                · skip
                  rw [← Int32.toInt_inj] at c_121
                  refine lv_iload hx hb dX12_goesOn_114 (lv_at hl 2 rfl) ?_
                  refine lv_aload_n hx hb dX12_goesOn_116 rfl (lv_at hl 5 rfl) ?_
                  refine tk_getP (D := (dC, dI)) (ci := 12) (v := .ref a_22) (C := RX12) (T := TX12) (N := 56) hx hb hU inlX12 hown hK hP mo0 hfo_78 rfl 0 (by decide) (hU _ wd_169) (fun _ h9 => h9) rfl dX12_goesOn_117 ?_
                  refine lv_iload hx hb dX12_goesOn_120 (lv_at hl 0 rfl) ?_
                  refine lv_iconst (v := 3) hx hb dX12_goesOn_122 (by decide) ?_
                  refine lv_iadd hx hb dX12_goesOn_123 ?_
                  refine lv_topi (fun x_122 ex_122 => ?_)
                  have hx_122 : x_122.toInt = x_92.toInt + 3 := by rw [ex_122, ad_I (by rw [ti_3]; omega) (by rw [ti_3]; omega), ti_3]
                  have bx_122 : (603 ≤ x_122.toInt ∧ x_122.toInt ≤ 1559) := by constructor <;> omega
                  refine tk_ildP hx hb hK hP 0 ma_22 hfo_99 rfl (vp_in_iff.mpr (by constructor <;> omega)) dX12_goesOn_124 ?_
                  refine lv_topi (fun x_123 ex_123 => ?_)
                  have bx_123 : ((-2147483648) ≤ x_123.toInt ∧ x_123.toInt ≤ 2147483647) := ⟨i32_lo _, i32_hi _⟩
                  refine lv_iconst (v := 1) hx hb dX12_goesOn_125 (by decide) ?_
                  have hcut_125 : ∀ (y_124 : Int32), (1 ≤ y_124.toInt ∧ y_124.toInt ≤ 32) → ∀ (ls : Array Slot), lv_has ls 10 [(9, .int x_92), (8, .int y_19), (7, .int y_20), (6, .int x_2), (5, .int x_1), (0, .ref o0), (1, .int p1), (2, .int p2), (3, .int p3), (4, .int p4)] → W p l e (headSpec (wU yX12_goesOn cX12_goesOn 10 (some .int)) { frames := 2, cells := 0, slots := 0, locals := 47 }).room s m [.ref o0, .int p1, .int p2, .int p3, .int p4].toArray below meth c H locs 0 0 (MQ below (va_Qi (fun (r : Int32) (f9 : Nat → va_E) => f = f9 ∧ (0 ≤ r.toInt ∧ r.toInt ≤ 63)) (qP (dC, dI) cI cL cZ cR cG cH L) (fun q => q ∈ L)) [.ref o0, .int p1, .int p2, .int p3, .int p4].toArray s 0 0 (fun q => q ∈ L)) (F0 m 140 ls [.int y_124, .int y_20]) := by
                    intro y_124 by_124 ls hl
                    refine lv_ior hx hb dX12_goesOn_140 ?_
                    refine lv_topi (fun x_126 ex_126 => ?_)
                    have bx_126 : (0 ≤ x_126.toInt ∧ x_126.toInt ≤ 63) := by rw [ex_126]; exact or_K 6 (by decide) (by constructor <;> omega) (by constructor <;> omega)
                    refine lv_istore (lv' := [(7, .int x_126), (9, .int x_92), (8, .int y_19), (6, .int x_2), (5, .int x_1), (0, .ref o0), (1, .int p1), (2, .int p2), (3, .int p3), (4, .int p4)]) hx hb dX12_goesOn_141 hl (by decide) rfl (fun ls hl => ?_)
                    exact hcut_96 x_126 (by constructor <;> omega) ls (lv_sub hl [1, 2, 0, 3, 4, 5, 6, 7, 8, 9] rfl)
                  refine lv_icmp_ne (tgt := 136) hx hb dX12_goesOn_126 (by decide) (fun c_127 => ?_) (fun c_127 => ?_)
                  · skip
                    rw [← Int32.toInt_inj, ti_1] at c_127
                    refine lv_iconst (v := 2) hx hb dX12_goesOn_136 (by decide) ?_
                    refine lv_iload hx hb dX12_goesOn_137 (lv_at hl 1 rfl) ?_
                    refine lv_ishl hx hb dX12_goesOn_139 ?_
                    refine lv_topi (fun x_128 ex_128 => ?_)
                    have bx_128 : (2 ≤ x_128.toInt ∧ x_128.toInt ≤ 32) := by rw [ex_128]; exact sl_2_4 (by constructor <;> omega)
                    exact hcut_125 x_128 (by constructor <;> omega) ls (lv_sub hl [0, 1, 2, 3, 4, 5, 6, 7, 8, 9] rfl)
                  · skip
                    rw [← Int32.toInt_inj, ti_1] at c_127
                    refine lv_iconst (v := 1) hx hb dX12_goesOn_129 (by decide) ?_
                    refine lv_iload hx hb dX12_goesOn_130 (lv_at hl 1 rfl) ?_
                    refine lv_ishl hx hb dX12_goesOn_132 ?_
                    refine lv_topi (fun x_129 ex_129 => ?_)
                    have bx_129 : (1 ≤ x_129.toInt ∧ x_129.toInt ≤ 32) := by rw [ex_129]; exact sl_1_5 (by constructor <;> omega)
                    refine lv_goto (tgt := 140) hx hb dX12_goesOn_133 (by decide) ?_
                    exact hcut_125 x_129 (by constructor <;> omega) ls (lv_sub hl [0, 1, 2, 3, 4, 5, 6, 7, 8, 9] rfl)
                · skip
                  rw [← Int32.toInt_inj] at c_121
                  refine lv_goto (tgt := 143) hx hb dX12_goesOn_111 (by decide) ?_
                  exact hcut_96 y_20 (by constructor <;> omega) ls (lv_sub hl [0, 1, 2, 3, 4, 5, 6, 7, 8, 9] rfl)
  exact hloop_18 6 0 (by decide) 0 (by decide) _ _ hP hS (by (try rw [ti_0]) <;> omega) ls hl
set_option maxHeartbeats 8000000 in
set_option maxRecDepth 100000 in
theorem s_X12_isDone_k12 (l : Launch) (D : va_G) (cI cL cZ cR cG cH : ClassId) (Z : zT) (kd : Nat → Nat) (L : List Nat) (f : Nat → va_E) (hG : GI (okc cI cL cZ cR cG cH L kd) kd L f) (o0 : Nat) (mo0 : o0 ∈ L) (ko0 : kd o0 = 12) (p1 : Int32) (bp1 : (0 ≤ p1.toInt ∧ p1.toInt ≤ 23)) (p2 : Int32) (bp2 : (0 ≤ p2.toInt ∧ p2.toInt ≤ 1)) (p3 : Int32) : mPI l D cI cL cZ cR cG cH Z yX12_isDone cX12_isDone 4 (some .boolean) 1 22 [.ref o0, .int p1, .int p2, .int p3] L f (fun (r : Int32) (f9 : Nat → va_E) => f = f9 ∧ (0 ≤ r.toInt ∧ r.toInt ≤ 1)) := by
  obtain ⟨dC, dI⟩ := D
  refine Met.ofW (cc := cX12_isDone) (maxL := 4) (ret := (some .boolean)) (by decide) rfl ?_
  intro p e s m args below meth c s₁ B hml hv
  obtain ⟨rfl, hP, hK, hD0, hN, hZ⟩ := hv
  have hx := B.exec
  have hb := B.bytes
  have hr := B.returns
  have hU : ∀ w ∈ wsU, w.before _ s = true := fun w h => atoms_spec (ws := wU yX12_isDone cX12_isDone 4 (some .boolean)) B.pre w (List.mem_cons_of_mem _ h)
  have hown : s.vm.findClass RX12 = some m.cls := findClass_of_methodNamed B.named
  have hlocks := B.notSynchronized
  have hD := pl_in hD0
  have hS : va_S (fun q => q ∈ L) s.heap s.heap [] := va_S.rf
  have hl := lv_entry ([.ref o0, .int p1, .int p2, .int p3]) (n := 4) (Nat.le_of_ble_eq_true rfl)
  rw [lg_entry_eq]
  generalize (lg_sl ([.ref o0, .int p1, .int p2, .int p3]) ++ List.replicate (4 - (lg_sl ([.ref o0, .int p1, .int p2, .int p3])).length) Slot.unset).toArray = ls at hl ⊢
  have hl : lv_has ls 4 [(0, .ref o0), (1, .int p1), (2, .int p2), (3, .int p3)] := hl
  have bp3 : ((-2147483648) ≤ p3.toInt ∧ p3.toInt ≤ 2147483647) := ⟨i32_lo _, i32_hi _⟩
  refine lv_iload_n hx hb dX12_isDone_0 rfl (lv_at hl 3 rfl) ?_
  refine lv_aload_n hx hb dX12_isDone_1 rfl (lv_at hl 0 rfl) ?_
  refine lv_iload_n hx hb dX12_isDone_2 rfl (lv_at hl 1 rfl) ?_
  refine lv_iload_n hx hb dX12_isDone_3 rfl (lv_at hl 2 rfl) ?_
  obtain ⟨a_1, a_2, a_3, v_4, a_5, v_6, v_7, v_8, v_9, v_10, v_11, v_12, v_13, v_14, v_15, a_16, a_17, a_18, a_19, a_20, a_21, a_22, a_23, v_24, v_25, v_26, v_27, v_28, a_29, v_30, a_31, a_32, v_33, v_34, a_35, v_36, a_37, a_38, v_39, v_40, a_41, a_42, a_43, v_44, a_45, a_46, a_47, a_48, a_49, a_50, a_51, a_52, a_53, v_54, v_55, a_56, hfo_57, fa_58⟩ := un12 (hG _ mo0) ko0
  refine tk_ViP (As := [.int p1, .int p2]) (rest := [.int p3]) (n := 2) hx hb hml hown hU hN hZ (s_X12_itemsOf_k12 l (dC, dI) cI cL cZ cR cG cH Z kd L f hG o0 mo0 ko0 p1 (by constructor <;> omega) p2 (by constructor <;> omega)) wd_882 wd_883 wd_884 wd_5 wd_885 (by decide +kernel) ⟨Nat.le_of_ble_eq_true rfl, Nat.le_of_ble_eq_true rfl⟩ hK hP hD hS mo0 hfo_57 12 rfl rfl rfl hl.1 rfl (Nat.le_of_ble_eq_true rfl) dX12_isDone_4 ⟨Nat.le_of_ble_eq_true rfl, Nat.le_of_ble_eq_true rfl⟩ (fun x_59 f_60 H locs hw hP hD hS => ?_)
  obtain ⟨rfl, bx_59⟩ := hw
  refine lv_ishr hx hb dX12_isDone_7 ?_
  refine lv_topi (fun x_62 ex_62 => ?_)
  have bx_62 : ((-2147483648) ≤ x_62.toInt ∧ x_62.toInt ≤ 2147483647) := ⟨i32_lo _, i32_hi _⟩
  refine lv_iconst (v := 1) hx hb dX12_isDone_8 (by decide) ?_
  refine lv_iand hx hb dX12_isDone_9 ?_
  refine lv_topi (fun x_63 ex_63 => ?_)
  have bx_63 : (0 ≤ x_63.toInt ∧ x_63.toInt ≤ 1) := by rw [ex_63]; have h8 := an_C x_62 (m := 1) (by decide); rw [ti_1] at h8; exact h8
  refine lv_iconst (v := 1) hx hb dX12_isDone_10 (by decide) ?_
  refine lv_icmp_ne (tgt := 18) hx hb dX12_isDone_11 (by decide) (fun c_64 => ?_) (fun c_64 => ?_)
  · skip
    rw [← Int32.toInt_inj, ti_1] at c_64
    refine lv_iconst (v := 0) hx hb dX12_isDone_18 (by decide) ?_
    exact W.zret (v := 0) (ty := .boolean) hx hb hr rfl (fun t ht hW => ⟨⟨0, f, rfl, ⟨rfl, (by decide)⟩, by rw [ht]; exact hP, va_K.moved hW.alike hK, pl_in hD⟩, hS.F ht⟩) hS.2.2 dX12_isDone_19
  · skip
    rw [← Int32.toInt_inj, ti_1] at c_64
    refine lv_iconst (v := 1) hx hb dX12_isDone_14 (by decide) ?_
    refine lv_goto (tgt := 19) hx hb dX12_isDone_15 (by decide) ?_
    exact W.zret (v := 1) (ty := .boolean) hx hb hr rfl (fun t ht hW => ⟨⟨1, f, rfl, ⟨rfl, (by decide)⟩, by rw [ht]; exact hP, va_K.moved hW.alike hK, pl_in hD⟩, hS.F ht⟩) hS.2.2 dX12_isDone_19
