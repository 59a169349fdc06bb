set_option maxHeartbeats 8000000 in
set_option maxRecDepth 100000 in
theorem s_X3_choiceOf_k3 (l : Launch) (D : va_G) (cI cL cZ cR cG cH : ClassId) (Z : zT) (kd : Nat → Nat) (L : List Nat) (f : Nat → va_E) (hG : GI (okc cI cL cZ cR cG cH L kd) kd L f) (o0 : Nat) (mo0 : o0 ∈ L) (ko0 : kd o0 = 3) (p1 : Int32) (bp1 : (0 ≤ p1.toInt ∧ p1.toInt ≤ 8)) (p2 : Int32) (bp2 : (0 ≤ p2.toInt ∧ p2.toInt ≤ 3)) : mPI l D cI cL cZ cR cG cH Z yX3_choiceOf cX3_choiceOf 4 (some .int) 0 0 [.ref o0, .int p1, .int p2] L f (fun (r : Int32) (f9 : Nat → va_E) => f = f9 ∧ ((-1) ≤ r.toInt ∧ r.toInt ≤ 19)) := by
  obtain ⟨dC, dI⟩ := D
  refine Met.ofW (cc := cX3_choiceOf) (maxL := 4) (ret := (some .int)) (by decide) rfl ?_
  intro p e s m args below meth c s₁ B hml hv
  obtain ⟨rfl, hP, hK, hD0, hN, hZ⟩ := hv
  have hx := B.exec
  have hb := B.bytes
  have hr := B.returns
  have hU : ∀ w ∈ wsU, w.before _ s = true := fun w h => atoms_spec (ws := wU yX3_choiceOf cX3_choiceOf 4 (some .int)) B.pre w (List.mem_cons_of_mem _ h)
  have hown : s.vm.findClass RX3 = some m.cls := findClass_of_methodNamed B.named
  have hlocks := B.notSynchronized
  have hD := pl_in hD0
  have hS : va_S (fun q => q ∈ L) s.heap s.heap [] := va_S.rf
  have hl := lv_entry ([.ref o0, .int p1, .int p2]) (n := 4) (Nat.le_of_ble_eq_true rfl)
  rw [lg_entry_eq]
  generalize (lg_sl ([.ref o0, .int p1, .int p2]) ++ List.replicate (4 - (lg_sl ([.ref o0, .int p1, .int p2])).length) Slot.unset).toArray = ls at hl ⊢
  have hl : lv_has ls 4 [(0, .ref o0), (1, .int p1), (2, .int p2)] := hl
  refine lv_iload_n hx hb dX3_choiceOf_0 rfl (lv_at hl 1 rfl) ?_
  refine lv_iconst (v := 4) hx hb dX3_choiceOf_1 (by decide) ?_
  refine lv_imul hx hb dX3_choiceOf_2 ?_
  refine lv_topi (fun x_1 ex_1 => ?_)
  have hx_1 : x_1.toInt = p1.toInt * 4 := by rw [ex_1, ml_I (by rw [ti_4]; omega) (by rw [ti_4]; omega), ti_4]
  have bx_1 : (0 ≤ x_1.toInt ∧ x_1.toInt ≤ 32) := by constructor <;> omega
  refine lv_iload_n hx hb dX3_choiceOf_3 rfl (lv_at hl 2 rfl) ?_
  refine lv_iadd hx hb dX3_choiceOf_4 ?_
  refine lv_topi (fun x_2 ex_2 => ?_)
  have hx_2 : x_2.toInt = x_1.toInt + p2.toInt := by rw [ex_2, ad_I (by omega) (by omega)]
  have bx_2 : (0 ≤ x_2.toInt ∧ x_2.toInt ≤ 35) := by constructor <;> omega
  refine lv_istore_n (lv' := [(3, .int x_2), (0, .ref o0), (1, .int p1), (2, .int p2)]) hx hb dX3_choiceOf_5 rfl hl (by decide) rfl (fun ls hl => ?_)
  refine lv_aload_n hx hb dX3_choiceOf_6 rfl (lv_at hl 1 rfl) ?_
  obtain ⟨a_4, a_5, a_6, a_7, a_8, v_9, v_10, v_11, v_12, v_13, v_14, v_15, a_16, a_17, a_18, v_19, a_20, a_21, hfo_3, ⟨ma_4, ka_4⟩, ⟨ma_5, ka_5⟩, ⟨ma_6, ka_6⟩, ⟨ma_7, ka_7⟩, ⟨ma_8, ka_8⟩, bv_9, bv_10, bv_11, ⟨ma_16, ka_16⟩, ⟨ma_17, ka_17⟩, ⟨ma_18, ka_18⟩, bv_19, ⟨ma_20, ka_20⟩, ⟨ma_21, ka_21⟩⟩ := un_3 (hG _ mo0) ko0
  have bv_12 : ((-2147483648) ≤ v_12.toInt ∧ v_12.toInt ≤ 2147483647) := ⟨i32_lo _, i32_hi _⟩
  have bv_13 : ((-2147483648) ≤ v_13.toInt ∧ v_13.toInt ≤ 2147483647) := ⟨i32_lo _, i32_hi _⟩
  have bv_14 : ((-2147483648) ≤ v_14.toInt ∧ v_14.toInt ≤ 2147483647) := ⟨i32_lo _, i32_hi _⟩
  have bv_15 : ((-2147483648) ≤ v_15.toInt ∧ v_15.toInt ≤ 2147483647) := ⟨i32_lo _, i32_hi _⟩
  refine tk_getP (D := (dC, dI)) (ci := 3) (v := .int v_10) (C := RX3) (T := TX3) (N := 18) hx hb hU inlX3 hown hK hP mo0 hfo_3 rfl 6 (by decide) (hU _ wd_732) (fun _ h9 => h9) rfl dX3_choiceOf_7 ?_
  have hcut_23 : ∀ (y_22 : Int32), (0 ≤ y_22.toInt ∧ y_22.toInt ≤ 20) → ∀ (ls : Array Slot), lv_has ls 4 [(3, .int x_2), (0, .ref o0), (1, .int p1), (2, .int p2)] → W p l e (headSpec (wU yX3_choiceOf cX3_choiceOf 4 (some .int)) { frames := 0, cells := 0, slots := 0, locals := 0 }).room s m [.ref o0, .int p1, .int p2].toArray below meth c s.heap [] 0 0 (MQ below (va_Qi (fun (r : Int32) (f9 : Nat → va_E) => f = f9 ∧ ((-1) ≤ r.toInt ∧ r.toInt ≤ 19)) (qP (dC, dI) cI cL cZ cR cG cH L) (fun q => q ∈ L)) [.ref o0, .int p1, .int p2].toArray s 0 0 (fun q => q ∈ L)) (F0 m 34 ls [.int y_22]) := by
    intro y_22 by_22 ls hl
    refine lv_iconst (v := 1) hx hb dX3_choiceOf_34 (by decide) ?_
    refine lv_isub hx hb dX3_choiceOf_35 ?_
    refine lv_topi (fun x_24 ex_24 => ?_)
    have hx_24 : x_24.toInt = y_22.toInt - 1 := by rw [ex_24, sb_I (by rw [ti_1]; omega) (by rw [ti_1]; omega), ti_1]
    have bx_24 : ((-1) ≤ x_24.toInt ∧ x_24.toInt ≤ 19) := by constructor <;> omega
    exact W.iret (v := x_24) hx hb hr (fun t ht hW => ⟨⟨x_24, f, rfl, ⟨rfl, (by constructor <;> omega)⟩, by rw [ht]; exact hP, va_K.moved hW.alike hK, pl_in hD⟩, hS.F ht⟩) hS.2.2 dX3_choiceOf_36
  refine lv_if_eq (tgt := 25) hx hb dX3_choiceOf_10 (by decide) (fun c_25 => ?_) (fun c_25 => ?_)
  · skip
    rw [← Int32.toInt_inj, ti_0] at c_25
    refine lv_aload_n hx hb dX3_choiceOf_25 rfl (lv_at hl 1 rfl) ?_
    refine tk_getP (D := (dC, dI)) (ci := 3) (v := .ref a_4) (C := RX3) (T := TX3) (N := 18) hx hb hU inlX3 hown hK hP mo0 hfo_3 rfl 0 (by decide) (hU _ wd_48) (fun _ h9 => h9) rfl dX3_choiceOf_26 ?_
    obtain ⟨a_27, v_28, a_29, a_30, a_31, a_32, v_33, a_34, a_35, a_36, a_37, a_38, v_39, a_40, a_41, a_42, hfo_26, ⟨ma_27, ka_27⟩, bv_28, ⟨ma_29, ka_29⟩, ⟨ma_30, ka_30⟩, ⟨ma_31, ka_31⟩, ⟨ma_32, ka_32⟩, bv_33, ⟨ma_34, ka_34⟩, ⟨ma_35, ka_35⟩, ⟨ma_36, ka_36⟩, ⟨ma_37, ka_37⟩, ⟨ma_38, ka_38⟩, bv_39, ⟨ma_40, ka_40⟩, ⟨ma_41, ka_41⟩, ⟨ma_42, ka_42⟩⟩ := un_7 (hG _ ma_4) ka_4
    refine tk_getP (D := (dC, dI)) (ci := 7) (v := .ref a_37) (C := RX7) (T := TX7) (N := 16) hx hb hU inlX7 hown hK hP ma_4 hfo_26 rfl 10 (by decide) (hU _ wd_824) (fun _ h9 => h9) rfl dX3_choiceOf_29 ?_
    refine lv_iload_n hx hb dX3_choiceOf_32 rfl (lv_at hl 0 rfl) ?_
    obtain ⟨g_44, hfo_43, hbg_44⟩ := un_514 (hG _ ma_37) ka_37
    refine tk_ildP hx hb hK hP 0 ma_37 hfo_43 rfl (vp_in_iff.mpr (by constructor <;> omega)) dX3_choiceOf_33 ?_
    refine lv_topi (fun x_45 ex_45 => ?_)
    have bx_45 : (0 ≤ x_45.toInt ∧ x_45.toInt ≤ 20) := by rw [ex_45]; exact hbg_44 _
    exact hcut_23 x_45 (by constructor <;> omega) ls (lv_sub hl [0, 1, 2, 3] rfl)
  · skip
    rw [← Int32.toInt_inj, ti_0] at c_25
    refine lv_aload_n hx hb dX3_choiceOf_13 rfl (lv_at hl 1 rfl) ?_
    refine tk_getP (D := (dC, dI)) (ci := 3) (v := .ref a_4) (C := RX3) (T := TX3) (N := 18) hx hb hU inlX3 hown hK hP mo0 hfo_3 rfl 0 (by decide) (hU _ wd_48) (fun _ h9 => h9) rfl dX3_choiceOf_14 ?_
    obtain ⟨a_47, v_48, a_49, a_50, a_51, a_52, v_53, a_54, a_55, a_56, a_57, a_58, v_59, a_60, a_61, a_62, hfo_46, ⟨ma_47, ka_47⟩, bv_48, ⟨ma_49, ka_49⟩, ⟨ma_50, ka_50⟩, ⟨ma_51, ka_51⟩, ⟨ma_52, ka_52⟩, bv_53, ⟨ma_54, ka_54⟩, ⟨ma_55, ka_55⟩, ⟨ma_56, ka_56⟩, ⟨ma_57, ka_57⟩, ⟨ma_58, ka_58⟩, bv_59, ⟨ma_60, ka_60⟩, ⟨ma_61, ka_61⟩, ⟨ma_62, ka_62⟩⟩ := un_7 (hG _ ma_4) ka_4
    refine tk_getP (D := (dC, dI)) (ci := 7) (v := .ref a_56) (C := RX7) (T := TX7) (N := 16) hx hb hU inlX7 hown hK hP ma_4 hfo_46 rfl 9 (by decide) (hU _ wd_823) (fun _ h9 => h9) rfl dX3_choiceOf_17 ?_
    refine lv_iload_n hx hb dX3_choiceOf_20 rfl (lv_at hl 0 rfl) ?_
    obtain ⟨g_64, hfo_63, hbg_64⟩ := un_514 (hG _ ma_56) ka_56
    refine tk_ildP hx hb hK hP 0 ma_56 hfo_63 rfl (vp_in_iff.mpr (by constructor <;> omega)) dX3_choiceOf_21 ?_
    refine lv_topi (fun x_65 ex_65 => ?_)
    have bx_65 : (0 ≤ x_65.toInt ∧ x_65.toInt ≤ 20) := by rw [ex_65]; exact hbg_64 _
    refine lv_goto (tgt := 34) hx hb dX3_choiceOf_22 (by decide) ?_
    exact hcut_23 x_65 (by constructor <;> omega) ls (lv_sub hl [0, 1, 2, 3] rfl)
set_option maxHeartbeats 8000000 in
set_option maxRecDepth 100000 in
theorem s_X3_isLeft_k3 (l : Launch) (D : va_G) (cI cL cZ cR cG cH : ClassId) (Z : zT) (kd : Nat → Nat) (L : List Nat) (f : Nat → va_E) (hG : GI (okc cI cL cZ cR cG cH L kd) kd L f) (o0 : Nat) (mo0 : o0 ∈ L) (ko0 : kd o0 = 3) (p1 : Int32) : mPI l D cI cL cZ cR cG cH Z yX3_isLeft cX3_isLeft 2 (some .boolean) 0 0 [.ref o0, .int p1] L f (fun (r : Int32) (f9 : Nat → va_E) => f = f9 ∧ (0 ≤ r.toInt ∧ r.toInt ≤ 1)) := by
  obtain ⟨dC, dI⟩ := D
  refine Met.ofW (cc := cX3_isLeft) (maxL := 2) (ret := (some .boolean)) (by decide) rfl ?_
  intro p e s m args below meth c s₁ B hml hv
  obtain ⟨rfl, hP, hK, hD0, hN, hZ⟩ := hv
  have hx := B.exec
  have hb := B.bytes
  have hr := B.returns
  have hU : ∀ w ∈ wsU, w.before _ s = true := fun w h => atoms_spec (ws := wU yX3_isLeft cX3_isLeft 2 (some .boolean)) B.pre w (List.mem_cons_of_mem _ h)
  have hown : s.vm.findClass RX3 = some m.cls := findClass_of_methodNamed B.named
  have hlocks := B.notSynchronized
  have hD := pl_in hD0
  have hS : va_S (fun q => q ∈ L) s.heap s.heap [] := va_S.rf
  have hl := lv_entry ([.ref o0, .int p1]) (n := 2) (Nat.le_of_ble_eq_true rfl)
  rw [lg_entry_eq]
  generalize (lg_sl ([.ref o0, .int p1]) ++ List.replicate (2 - (lg_sl ([.ref o0, .int p1])).length) Slot.unset).toArray = ls at hl ⊢
  have hl : lv_has ls 2 [(0, .ref o0), (1, .int p1)] := hl
  have bp1 : ((-2147483648) ≤ p1.toInt ∧ p1.toInt ≤ 2147483647) := ⟨i32_lo _, i32_hi _⟩
  refine lv_iload_n hx hb dX3_isLeft_0 rfl (lv_at hl 1 rfl) ?_
  refine lv_aload_n hx hb dX3_isLeft_1 rfl (lv_at hl 0 rfl) ?_
  obtain ⟨a_2, a_3, a_4, a_5, a_6, v_7, v_8, v_9, v_10, v_11, v_12, v_13, a_14, a_15, a_16, v_17, a_18, a_19, hfo_1, ⟨ma_2, ka_2⟩, ⟨ma_3, ka_3⟩, ⟨ma_4, ka_4⟩, ⟨ma_5, ka_5⟩, ⟨ma_6, ka_6⟩, bv_7, bv_8, bv_9, ⟨ma_14, ka_14⟩, ⟨ma_15, ka_15⟩, ⟨ma_16, ka_16⟩, bv_17, ⟨ma_18, ka_18⟩, ⟨ma_19, ka_19⟩⟩ := un_3 (hG _ mo0) ko0
  have bv_10 : ((-2147483648) ≤ v_10.toInt ∧ v_10.toInt ≤ 2147483647) := ⟨i32_lo _, i32_hi _⟩
  have bv_11 : ((-2147483648) ≤ v_11.toInt ∧ v_11.toInt ≤ 2147483647) := ⟨i32_lo _, i32_hi _⟩
  have bv_12 : ((-2147483648) ≤ v_12.toInt ∧ v_12.toInt ≤ 2147483647) := ⟨i32_lo _, i32_hi _⟩
  have bv_13 : ((-2147483648) ≤ v_13.toInt ∧ v_13.toInt ≤ 2147483647) := ⟨i32_lo _, i32_hi _⟩
  refine tk_getP (D := (dC, dI)) (ci := 3) (v := .int v_11) (C := RX3) (T := TX3) (N := 18) hx hb hU inlX3 hown hK hP mo0 hfo_1 rfl 9 (by decide) (hU _ wd_735) (fun _ h9 => h9) rfl dX3_isLeft_2 ?_
  refine lv_iand hx hb dX3_isLeft_5 ?_
  refine lv_topi (fun x_20 ex_20 => ?_)
  have bx_20 : ((-2147483648) ≤ x_20.toInt ∧ x_20.toInt ≤ 2147483647) := ⟨i32_lo _, i32_hi _⟩
  refine lv_if_eq (tgt := 22) hx hb dX3_isLeft_6 (by decide) (fun c_21 => ?_) (fun c_21 => ?_)
  · skip
    rw [← Int32.toInt_inj, ti_0] at c_21
    refine lv_iconst (v := 0) hx hb dX3_isLeft_22 (by decide) ?_
    exact W.zret (v := 0) (ty := .boolean) hx hb hr rfl (fun t ht hW => ⟨⟨0, f, rfl, ⟨rfl, (by decide)⟩, by rw [ht]; exact hP, va_K.moved hW.alike hK, pl_in hD⟩, hS.F ht⟩) hS.2.2 dX3_isLeft_23
  · skip
    rw [← Int32.toInt_inj, ti_0] at c_21
    refine lv_iload_n hx hb dX3_isLeft_9 rfl (lv_at hl 1 rfl) ?_
    refine lv_aload_n hx hb dX3_isLeft_10 rfl (lv_at hl 0 rfl) ?_
    refine tk_getP (D := (dC, dI)) (ci := 3) (v := .int v_12) (C := RX3) (T := TX3) (N := 18) hx hb hU inlX3 hown hK hP mo0 hfo_1 rfl 10 (by decide) (hU _ wd_736) (fun _ h9 => h9) rfl dX3_isLeft_11 ?_
    refine lv_iand hx hb dX3_isLeft_14 ?_
    refine lv_topi (fun x_22 ex_22 => ?_)
    have bx_22 : ((-2147483648) ≤ x_22.toInt ∧ x_22.toInt ≤ 2147483647) := ⟨i32_lo _, i32_hi _⟩
    refine lv_if_eq (tgt := 22) hx hb dX3_isLeft_15 (by decide) (fun c_23 => ?_) (fun c_23 => ?_)
    · skip
      rw [← Int32.toInt_inj, ti_0] at c_23
      refine lv_iconst (v := 0) hx hb dX3_isLeft_22 (by decide) ?_
      exact W.zret (v := 0) (ty := .boolean) hx hb hr rfl (fun t ht hW => ⟨⟨0, f, rfl, ⟨rfl, (by decide)⟩, by rw [ht]; exact hP, va_K.moved hW.alike hK, pl_in hD⟩, hS.F ht⟩) hS.2.2 dX3_isLeft_23
    · skip
      rw [← Int32.toInt_inj, ti_0] at c_23
      refine lv_iconst (v := 1) hx hb dX3_isLeft_18 (by decide) ?_
      refine lv_goto (tgt := 23) hx hb dX3_isLeft_19 (by decide) ?_
      exact W.zret (v := 1) (ty := .boolean) hx hb hr rfl (fun t ht hW => ⟨⟨1, f, rfl, ⟨rfl, (by decide)⟩, by rw [ht]; exact hP, va_K.moved hW.alike hK, pl_in hD⟩, hS.F ht⟩) hS.2.2 dX3_isLeft_23
set_option maxHeartbeats 8000000 in
set_option maxRecDepth 100000 in
theorem s_X3_hasWanted_k3 (l : Launch) (D : va_G) (cI cL cZ cR cG cH : ClassId) (Z : zT) (kd : Nat → Nat) (L : List Nat) (f : Nat → va_E) (hG : GI (okc cI cL cZ cR cG cH L kd) kd L f) (o0 : Nat) (mo0 : o0 ∈ L) (ko0 : kd o0 = 3) (p1 : Int32) (bp1 : (0 ≤ p1.toInt ∧ p1.toInt ≤ 9)) : mPI l D cI cL cZ cR cG cH Z yX3_hasWanted cX3_hasWanted 4 (some .boolean) 0 0 [.ref o0, .int p1] L f (fun (r : Int32) (f9 : Nat → va_E) => f = f9 ∧ (0 ≤ r.toInt ∧ r.toInt ≤ 1)) := by
  obtain ⟨dC, dI⟩ := D
  refine Met.ofW (cc := cX3_hasWanted) (maxL := 4) (ret := (some .boolean)) (by decide) rfl ?_
  intro p e s m args below meth c s₁ B hml hv
  obtain ⟨rfl, hP, hK, hD0, hN, hZ⟩ := hv
  have hx := B.exec
  have hb := B.bytes
  have hr := B.returns
  have hU : ∀ w ∈ wsU, w.before _ s = true := fun w h => atoms_spec (ws := wU yX3_hasWanted cX3_hasWanted 4 (some .boolean)) B.pre w (List.mem_cons_of_mem _ h)
  have hown : s.vm.findClass RX3 = some m.cls := findClass_of_methodNamed B.named
  have hlocks := B.notSynchronized
  have hD := pl_in hD0
  have hS : va_S (fun q => q ∈ L) s.heap s.heap [] := va_S.rf
  have hl := lv_entry ([.ref o0, .int p1]) (n := 4) (Nat.le_of_ble_eq_true rfl)
  rw [lg_entry_eq]
  generalize (lg_sl ([.ref o0, .int p1]) ++ List.replicate (4 - (lg_sl ([.ref o0, .int p1])).length) Slot.unset).toArray = ls at hl ⊢
  have hl : lv_has ls 4 [(0, .ref o0), (1, .int p1)] := hl
  refine lv_aload_n hx hb dX3_hasWanted_0 rfl (lv_at hl 0 rfl) ?_
  obtain ⟨a_2, a_3, a_4, a_5, a_6, v_7, v_8, v_9, v_10, v_11, v_12, v_13, a_14, a_15, a_16, v_17, a_18, a_19, hfo_1, ⟨ma_2, ka_2⟩, ⟨ma_3, ka_3⟩, ⟨ma_4, ka_4⟩, ⟨ma_5, ka_5⟩, ⟨ma_6, ka_6⟩, bv_7, bv_8, bv_9, ⟨ma_14, ka_14⟩, ⟨ma_15, ka_15⟩, ⟨ma_16, ka_16⟩, bv_17, ⟨ma_18, ka_18⟩, ⟨ma_19, ka_19⟩⟩ := un_3 (hG _ mo0) ko0
  have bv_10 : ((-2147483648) ≤ v_10.toInt ∧ v_10.toInt ≤ 2147483647) := ⟨i32_lo _, i32_hi _⟩
  have bv_11 : ((-2147483648) ≤ v_11.toInt ∧ v_11.toInt ≤ 2147483647) := ⟨i32_lo _, i32_hi _⟩
  have bv_12 : ((-2147483648) ≤ v_12.toInt ∧ v_12.toInt ≤ 2147483647) := ⟨i32_lo _, i32_hi _⟩
  have bv_13 : ((-2147483648) ≤ v_13.toInt ∧ v_13.toInt ≤ 2147483647) := ⟨i32_lo _, i32_hi _⟩
  refine tk_getP (D := (dC, dI)) (ci := 3) (v := .int v_13) (C := RX3) (T := TX3) (N := 18) hx hb hU inlX3 hown hK hP mo0 hfo_1 rfl 11 (by decide) (hU _ wd_62) (fun _ h9 => h9) rfl dX3_hasWanted_1 ?_
  refine lv_iconst (v := (-1)) hx hb dX3_hasWanted_4 (by decide) ?_
  have hcut_21 : ∀ (y_20 : Int32), (0 ≤ y_20.toInt ∧ y_20.toInt ≤ 1) → ∀ (ls : Array Slot), lv_has ls 4 [(0, .ref o0), (1, .int p1)] → W p l e (headSpec (wU yX3_hasWanted cX3_hasWanted 4 (some .boolean)) { frames := 0, cells := 0, slots := 0, locals := 0 }).room s m [.ref o0, .int p1].toArray below meth c s.heap [] 0 0 (MQ below (va_Qi (fun (r : Int32) (f9 : Nat → va_E) => f = f9 ∧ (0 ≤ r.toInt ∧ r.toInt ≤ 1)) (qP (dC, dI) cI cL cZ cR cG cH L) (fun q => q ∈ L)) [.ref o0, .int p1].toArray s 0 0 (fun q => q ∈ L)) (F0 m 13 ls [.int y_20]) := by
    intro y_20 by_20 ls hl
    refine lv_istore_n (lv' := [(2, .int y_20), (0, .ref o0), (1, .int p1)]) hx hb dX3_hasWanted_13 rfl hl (by decide) rfl (fun ls hl => ?_)
    refine lv_iconst (v := 0) hx hb dX3_hasWanted_14 (by decide) ?_
    refine lv_istore_n (lv' := [(3, .int 0), (2, .int y_20), (0, .ref o0), (1, .int p1)]) hx hb dX3_hasWanted_15 rfl hl (by decide) rfl (fun ls hl => ?_)
    have hloop_31 : ∀ (n : Nat), ∀ (y_32 : Int32), (0 ≤ y_32.toInt ∧ y_32.toInt ≤ 9) → ∀ (y_33 : Int32), (0 ≤ y_33.toInt ∧ y_33.toInt ≤ 1) → 9 - y_32.toInt < (n : Int) → ∀ (ls : Array Slot), lv_has ls 4 [(3, .int y_32), (2, .int y_33), (0, .ref o0), (1, .int p1)] → W p l e (headSpec (wU yX3_hasWanted cX3_hasWanted 4 (some .boolean)) { frames := 0, cells := 0, slots := 0, locals := 0 }).room s m [.ref o0, .int p1].toArray below meth c s.heap [] 0 0 (MQ below (va_Qi (fun (r : Int32) (f9 : Nat → va_E) => f = f9 ∧ (0 ≤ r.toInt ∧ r.toInt ≤ 1)) (qP (dC, dI) cI cL cZ cR cG cH L) (fun q => q ∈ L)) [.ref o0, .int p1].toArray s 0 0 (fun q => q ∈ L)) (F0 m 16 ls []) := by
      intro n
      induction n with
      | zero => intro y_32 by_32 y_33 by_33 hmuhloop_31 ls hl; exfalso; omega
      | succ n ih_hloop_31 =>
        intro y_32 by_32 y_33 by_33 hmuhloop_31 ls hl
        refine lv_iload_n hx hb dX3_hasWanted_16 rfl (lv_at hl 0 rfl) ?_
        refine lv_iload_n hx hb dX3_hasWanted_17 rfl (lv_at hl 3 rfl) ?_
        refine lv_icmp_ge (tgt := 48) hx hb dX3_hasWanted_18 (by decide) (fun c_34 => ?_) (fun c_34 => ?_)
        · skip
          rw [Int32.le_iff_toInt_le] at c_34
          refine lv_iload_n hx hb dX3_hasWanted_48 rfl (lv_at hl 1 rfl) ?_
          exact W.zret (v := y_33) (ty := .boolean) hx hb hr (zb_n (by constructor <;> omega)) (fun t ht hW => ⟨⟨y_33, f, rfl, ⟨rfl, (by constructor <;> omega)⟩, by rw [ht]; exact hP, va_K.moved hW.alike hK, pl_in hD⟩, hS.F ht⟩) hS.2.2 dX3_hasWanted_49
        · skip
          rw [Int32.le_iff_toInt_le] at c_34
          refine lv_iload_n hx hb dX3_hasWanted_21 rfl (lv_at hl 1 rfl) ?_
          refine lv_aload_n hx hb dX3_hasWanted_22 rfl (lv_at hl 2 rfl) ?_
          refine tk_getP (D := (dC, dI)) (ci := 3) (v := .ref a_14) (C := RX3) (T := TX3) (N := 18) hx hb hU inlX3 hown hK hP mo0 hfo_1 rfl 12 (by decide) (hU _ wd_63) (fun _ h9 => h9) rfl dX3_hasWanted_23 ?_
          refine lv_iload_n hx hb dX3_hasWanted_26 rfl (lv_at hl 0 rfl) ?_
          obtain ⟨g_36, hfo_35, hbg_36⟩ := un_525 (hG _ ma_14) ka_14
          refine tk_ildP hx hb hK hP 0 ma_14 hfo_35 rfl (vp_in_iff.mpr (by constructor <;> omega)) dX3_hasWanted_27 ?_
          refine lv_topi (fun x_37 ex_37 => ?_)
          have bx_37 : ((-1) ≤ x_37.toInt ∧ x_37.toInt ≤ 19) := by rw [ex_37]; exact hbg_36 _
          refine lv_aload_n hx hb dX3_hasWanted_28 rfl (lv_at hl 2 rfl) ?_
          refine tk_getP (D := (dC, dI)) (ci := 3) (v := .int v_13) (C := RX3) (T := TX3) (N := 18) hx hb hU inlX3 hown hK hP mo0 hfo_1 rfl 11 (by decide) (hU _ wd_62) (fun _ h9 => h9) rfl dX3_hasWanted_29 ?_
          have hcut_39 : ∀ (y_38 : Int32), (0 ≤ y_38.toInt ∧ y_38.toInt ≤ 1) → ∀ (ls : Array Slot), lv_has ls 4 [(3, .int y_32), (2, .int y_33), (0, .ref o0), (1, .int p1)] → W p l e (headSpec (wU yX3_hasWanted cX3_hasWanted 4 (some .boolean)) { frames := 0, cells := 0, slots := 0, locals := 0 }).room s m [.ref o0, .int p1].toArray below meth c s.heap [] 0 0 (MQ below (va_Qi (fun (r : Int32) (f9 : Nat → va_E) => f = f9 ∧ (0 ≤ r.toInt ∧ r.toInt ≤ 1)) (qP (dC, dI) cI cL cZ cR cG cH L) (fun q => q ∈ L)) [.ref o0, .int p1].toArray s 0 0 (fun q => q ∈ L)) (F0 m 40 ls [.int y_38, .int y_33]) := by
            intro y_38 by_38 ls hl
            refine lv_ior hx hb dX3_hasWanted_40 ?_
            refine lv_topi (fun x_40 ex_40 => ?_)
            have bx_40 : (0 ≤ x_40.toInt ∧ x_40.toInt ≤ 1) := by rw [ex_40]; exact or_K 1 (by decide) (by constructor <;> omega) (by constructor <;> omega)
            refine lv_istore_n (lv' := [(2, .int x_40), (3, .int y_32), (0, .ref o0), (1, .int p1)]) hx hb dX3_hasWanted_41 rfl hl (by decide) rfl (fun ls hl => ?_)
            obtain ⟨x_41, ex_41⟩ : ∃ y : Int32, y_32 + 1 = y := ⟨_, rfl⟩
            have hx_41 : x_41.toInt = y_32.toInt + 1 := by rw [← ex_41, ad_I (by rw [ti_1]; omega) (by rw [ti_1]; omega), ti_1]
            have bx_41 : (1 ≤ x_41.toInt ∧ x_41.toInt ≤ 9) := by constructor <;> omega
            refine lv_iinc (v := x_41) (lv' := [(3, .int x_41), (2, .int x_40), (0, .ref o0), (1, .int p1)]) hx hb dX3_hasWanted_42 hl (k := 1) rfl ex_41 (by decide) rfl (fun ls hl => ?_)
            refine lv_goto (tgt := 16) hx hb dX3_hasWanted_45 (by decide) ?_
            exact ih_hloop_31 x_41 (by constructor <;> omega) x_40 (by constructor <;> omega) (by omega) ls (lv_sub hl [0, 1, 2, 3] rfl)
          refine lv_icmp_ne (tgt := 39) hx hb dX3_hasWanted_32 (by decide) (fun c_42 => ?_) (fun c_42 => ?_)
          · skip
            rw [← Int32.toInt_inj] at c_42
            refine lv_iconst (v := 0) hx hb dX3_hasWanted_39 (by decide) ?_
            exact hcut_39 0 (by decide) ls (lv_sub hl [0, 1, 2, 3] rfl)
          · skip
            rw [← Int32.toInt_inj] at c_42
            refine lv_iconst (v := 1) hx hb dX3_hasWanted_35 (by decide) ?_
            refine lv_goto (tgt := 40) hx hb dX3_hasWanted_36 (by decide) ?_
            exact hcut_39 1 (by decide) ls (lv_sub hl [0, 1, 2, 3] rfl)
    exact hloop_31 10 0 (by decide) y_20 (by constructor <;> omega) (by (try rw [ti_0]) <;> omega) ls hl
  refine lv_icmp_ne (tgt := 12) hx hb dX3_hasWanted_5 (by decide) (fun c_43 => ?_) (fun c_43 => ?_)
  · skip
    rw [← Int32.toInt_inj, ti_m1] at c_43
    refine lv_iconst (v := 0) hx hb dX3_hasWanted_12 (by decide) ?_
    exact hcut_21 0 (by decide) ls (lv_sub hl [0, 1] rfl)
  · skip
    rw [← Int32.toInt_inj, ti_m1] at c_43
    refine lv_iconst (v := 1) hx hb dX3_hasWanted_8 (by decide) ?_
    refine lv_goto (tgt := 13) hx hb dX3_hasWanted_9 (by decide) ?_
    exact hcut_21 1 (by decide) ls (lv_sub hl [0, 1] rfl)
set_option maxHeartbeats 8000000 in
set_option maxRecDepth 100000 in
theorem s_X3_shortCode_k3 (l : Launch) (D : va_G) (cI cL cZ cR cG cH : ClassId) (Z : zT) (kd : Nat → Nat) (L : List Nat) (f : Nat → va_E) (hG : GI (okc cI cL cZ cR cG cH L kd) kd L f) (o0 : Nat) (mo0 : o0 ∈ L) (ko0 : kd o0 = 3) (p1 : Int32) (bp1 : (0 ≤ p1.toInt ∧ p1.toInt ≤ 1023)) : mPI l D cI cL cZ cR cG cH Z yX3_shortCode cX3_shortCode 2 (some .int) 1 40 [.ref o0, .int p1] L f (fun (r : Int32) (f9 : Nat → va_E) => f = f9 ∧ (0 ≤ r.toInt ∧ r.toInt ≤ 6560)) := by
  obtain ⟨dC, dI⟩ := D
  refine Met.ofW (cc := cX3_shortCode) (maxL := 2) (ret := (some .int)) (by decide) rfl ?_
  intro p e s m args below meth c s₁ B hml hv
  obtain ⟨rfl, hP, hK, hD0, hN, hZ⟩ := hv
  have hx := B.exec
  have hb := B.bytes
  have hr := B.returns
  have hU : ∀ w ∈ wsU, w.before _ s = true := fun w h => atoms_spec (ws := wU yX3_shortCode cX3_shortCode 2 (some .int)) B.pre w (List.mem_cons_of_mem _ h)
  have hown : s.vm.findClass RX3 = some m.cls := findClass_of_methodNamed B.named
  have hlocks := B.notSynchronized
  have hD := pl_in hD0
  have hS : va_S (fun q => q ∈ L) s.heap s.heap [] := va_S.rf
  have hl := lv_entry ([.ref o0, .int p1]) (n := 2) (Nat.le_of_ble_eq_true rfl)
  rw [lg_entry_eq]
  generalize (lg_sl ([.ref o0, .int p1]) ++ List.replicate (2 - (lg_sl ([.ref o0, .int p1])).length) Slot.unset).toArray = ls at hl ⊢
  have hl : lv_has ls 2 [(0, .ref o0), (1, .int p1)] := hl
  refine lv_aload_n hx hb dX3_shortCode_0 rfl (lv_at hl 0 rfl) ?_
  obtain ⟨a_2, a_3, a_4, a_5, a_6, v_7, v_8, v_9, v_10, v_11, v_12, v_13, a_14, a_15, a_16, v_17, a_18, a_19, hfo_1, ⟨ma_2, ka_2⟩, ⟨ma_3, ka_3⟩, ⟨ma_4, ka_4⟩, ⟨ma_5, ka_5⟩, ⟨ma_6, ka_6⟩, bv_7, bv_8, bv_9, ⟨ma_14, ka_14⟩, ⟨ma_15, ka_15⟩, ⟨ma_16, ka_16⟩, bv_17, ⟨ma_18, ka_18⟩, ⟨ma_19, ka_19⟩⟩ := un_3 (hG _ mo0) ko0
  have bv_10 : ((-2147483648) ≤ v_10.toInt ∧ v_10.toInt ≤ 2147483647) := ⟨i32_lo _, i32_hi _⟩
  have bv_11 : ((-2147483648) ≤ v_11.toInt ∧ v_11.toInt ≤ 2147483647) := ⟨i32_lo _, i32_hi _⟩
  have bv_12 : ((-2147483648) ≤ v_12.toInt ∧ v_12.toInt ≤ 2147483647) := ⟨i32_lo _, i32_hi _⟩
  have bv_13 : ((-2147483648) ≤ v_13.toInt ∧ v_13.toInt ≤ 2147483647) := ⟨i32_lo _, i32_hi _⟩
  refine tk_getP (D := (dC, dI)) (ci := 3) (v := .ref a_15) (C := RX3) (T := TX3) (N := 18) hx hb hU inlX3 hown hK hP mo0 hfo_1 rfl 13 (by decide) (hU _ wd_64) (fun _ h9 => h9) rfl dX3_shortCode_1 ?_
  refine lv_iload_n hx hb dX3_shortCode_4 rfl (lv_at hl 1 rfl) ?_
  obtain ⟨g_21, hfo_20, hbg_21⟩ := un_526 (hG _ ma_15) ka_15
  refine tk_ildP hx hb hK hP 0 ma_15 hfo_20 rfl (vp_in_iff.mpr (by constructor <;> omega)) dX3_shortCode_5 ?_
  refine lv_topi (fun x_22 ex_22 => ?_)
  have bx_22 : (0 ≤ x_22.toInt ∧ x_22.toInt ≤ 387420488) := by rw [ex_22]; exact hbg_21 _
  refine lv_ldc (v := 59049) hx hb hown (hU _ wd_1325) dX3_shortCode_6 ?_
  refine lv_idiv hx hb dX3_shortCode_8 (by decide) ?_
  refine lv_topi (fun x_23 ex_23 => ?_)
  have hx_23 : x_23.toInt = x_22.toInt / 59049 := by rw [ex_23, dv_I (by omega) (by rw [ti_59049]; omega), ti_59049]
  have bx_23 : (0 ≤ x_23.toInt ∧ x_23.toInt ≤ 6560) := by constructor <;> omega
  refine lv_sipush (v := 6560) hx hb dX3_shortCode_9 (by decide) ?_
  refine va_mmin hx hb (by rw [hml]; exact hl.1.symm) hown (hU _ wd_722) (hU _ wd_248) (hU _ wd_249) (hU _ wd_250) (Nat.le_of_ble_eq_true rfl) (Nat.le_of_ble_eq_true rfl) (Nat.le_of_ble_eq_true rfl) (Nat.le_of_ble_eq_true rfl) dX3_shortCode_12 ?_
  refine lv_topi (fun x_24 ex_24 => ?_)
  have hx_24 := min_I ex_24
  rw [ti_6560] at hx_24
  have bx_24 : (0 ≤ x_24.toInt ∧ x_24.toInt ≤ 6560) := by constructor <;> omega
  exact W.iret (v := x_24) hx hb hr (fun t ht hW => ⟨⟨x_24, f, rfl, ⟨rfl, (by constructor <;> omega)⟩, by rw [ht]; exact hP, va_K.moved hW.alike hK, pl_in hD⟩, hS.F ht⟩) hS.2.2 dX3_shortCode_15
set_option maxHeartbeats 8000000 in
set_option maxRecDepth 100000 in
theorem s_X3_clearMarks_k3 (l : Launch) (D : va_G) (cI cL cZ cR cG cH : ClassId) (Z : zT) (kd : Nat → Nat) (L : List Nat) (f : Nat → va_E) (hG : GI (okc cI cL cZ cR cG cH L kd) kd L f) (o0 : Nat) (mo0 : o0 ∈ L) (ko0 : kd o0 = 3) : mPV l D cI cL cZ cR cG cH Z yX3_clearMarks cX3_clearMarks 2 none 2 61 [.ref o0] L f (fun (f9 : Nat → va_E) => GI (okc cI cL cZ cR cG cH L kd) kd L f9 ∧ (∀ b, kd b ≠ 528 → f9 b = f b)) := by
  obtain ⟨dC, dI⟩ := D
  refine Met.ofW (cc := cX3_clearMarks) (maxL := 2) (ret := none) (by decide) rfl ?_
  intro p e s m args below meth c s₁ B hml hv
  obtain ⟨rfl, hP, hK, hD0, hN, hZ⟩ := hv
  have hx := B.exec
  have hb := B.bytes
  have hr := B.returns
  have hU : ∀ w ∈ wsU, w.before _ s = true := fun w h => atoms_spec (ws := wU yX3_clearMarks cX3_clearMarks 2 none) B.pre w (List.mem_cons_of_mem _ h)
  have hown : s.vm.findClass RX3 = some m.cls := findClass_of_methodNamed B.named
  have hlocks := B.notSynchronized
  have hD := pl_in hD0
  have hS : va_S (fun q => q ∈ L) s.heap s.heap [] := va_S.rf
  have hl := lv_entry ([.ref o0]) (n := 2) (Nat.le_of_ble_eq_true rfl)
  rw [lg_entry_eq]
  generalize (lg_sl ([.ref o0]) ++ List.replicate (2 - (lg_sl ([.ref o0])).length) Slot.unset).toArray = ls at hl ⊢
  have hl : lv_has ls 2 [(0, .ref o0)] := hl
  have hfr0 : ∀ b, kd b ≠ 528 → f b = f b := fun _ _ => rfl
  refine lv_iconst (v := 0) hx hb dX3_clearMarks_0 (by decide) ?_
  refine lv_istore_n (lv' := [(1, .int 0), (0, .ref o0)]) hx hb dX3_clearMarks_1 rfl hl (by decide) rfl (fun ls hl => ?_)
  have hloop_13 : ∀ (n : Nat), ∀ (y_14 : Int32), (0 ≤ y_14.toInt ∧ y_14.toInt ≤ 1024) → ∀ (f_16 : Nat → va_E), GI (okc cI cL cZ cR cG cH L kd) kd L f_16 → ∀ (H : Heap) (locs : List Loc), va_P (dC, dI) vwCl (va_pl L f_16) H → va_S (fun q => q ∈ L) s.heap H locs → va_D (fun q => q ∈ L) (va_pl L f_16) → (∀ b, kd b ≠ 528 → f_16 b = f b) → 1024 - y_14.toInt < (n : Int) → ∀ (ls : Array Slot), lv_has ls 2 [(1, .int y_14), (0, .ref o0)] → W p l e (headSpec (wU yX3_clearMarks cX3_clearMarks 2 none) { frames := 2, cells := 0, slots := 0, locals := 61 }).room s m [.ref o0].toArray below meth c H locs 0 0 (MQ below (va_Qv (fun (f9 : Nat → va_E) => GI (okc cI cL cZ cR cG cH L kd) kd L f9 ∧ (∀ b, kd b ≠ 528 → f9 b = f b)) (qP (dC, dI) cI cL cZ cR cG cH L) (fun q => q ∈ L)) [.ref o0].toArray s 0 0 (fun q => q ∈ L)) (F0 m 2 ls []) := by
    intro n
    induction n with
    | zero => intro y_14 by_14 f_16 hG H locs hP hS hD hfr0 hmuhloop_13 ls hl; exfalso; omega
    | succ n ih_hloop_13 =>
      intro y_14 by_14 f_16 hG H locs hP hS hD hfr0 hmuhloop_13 ls hl
      refine lv_iload_n hx hb dX3_clearMarks_2 rfl (lv_at hl 0 rfl) ?_
      refine lv_aload_n hx hb dX3_clearMarks_3 rfl (lv_at hl 1 rfl) ?_
      obtain ⟨a_18, a_19, a_20, a_21, a_22, v_23, v_24, v_25, v_26, v_27, v_28, v_29, a_30, a_31, a_32, v_33, a_34, a_35, hfo_17, ⟨ma_18, ka_18⟩, ⟨ma_19, ka_19⟩, ⟨ma_20, ka_20⟩, ⟨ma_21, ka_21⟩, ⟨ma_22, ka_22⟩, bv_23, bv_24, bv_25, ⟨ma_30, ka_30⟩, ⟨ma_31, ka_31⟩, ⟨ma_32, ka_32⟩, bv_33, ⟨ma_34, ka_34⟩, ⟨ma_35, ka_35⟩⟩ := un_3 (hG _ mo0) ko0
      have bv_26 : ((-2147483648) ≤ v_26.toInt ∧ v_26.toInt ≤ 2147483647) := ⟨i32_lo _, i32_hi _⟩
      have bv_27 : ((-2147483648) ≤ v_27.toInt ∧ v_27.toInt ≤ 2147483647) := ⟨i32_lo _, i32_hi _⟩
      have bv_28 : ((-2147483648) ≤ v_28.toInt ∧ v_28.toInt ≤ 2147483647) := ⟨i32_lo _, i32_hi _⟩
      have bv_29 : ((-2147483648) ≤ v_29.toInt ∧ v_29.toInt ≤ 2147483647) := ⟨i32_lo _, i32_hi _⟩
      refine tk_getP (D := (dC, dI)) (ci := 3) (v := .int v_33) (C := RX3) (T := TX3) (N := 18) hx hb hU inlX3 hown hK hP mo0 hfo_17 rfl 15 (by decide) (hU _ wd_796) (fun _ h9 => h9) rfl dX3_clearMarks_4 ?_
      refine lv_icmp_ge (tgt := 27) hx hb dX3_clearMarks_7 (by decide) (fun c_36 => ?_) (fun c_36 => ?_)
      · skip
        rw [Int32.le_iff_toInt_le] at c_36
        exact W.vret hx hb hr (fun t ht hW => ⟨⟨f_16, rfl, ⟨hG, hfr0⟩, by rw [ht]; exact hP, va_K.moved hW.alike hK, pl_in hD⟩, hS.F ht⟩) hS.2.2 dX3_clearMarks_27
      · skip
        rw [Int32.le_iff_toInt_le] at c_36
        refine lv_aload_n hx hb dX3_clearMarks_10 rfl (lv_at hl 1 rfl) ?_
        refine tk_getP (D := (dC, dI)) (ci := 3) (v := .ref a_34) (C := RX3) (T := TX3) (N := 18) hx hb hU inlX3 hown hK hP mo0 hfo_17 rfl 16 (by decide) (hU _ wd_66) (fun _ h9 => h9) rfl dX3_clearMarks_11 ?_
        refine lv_aload_n hx hb dX3_clearMarks_14 rfl (lv_at hl 1 rfl) ?_
        refine lv_iload_n hx hb dX3_clearMarks_15 rfl (lv_at hl 0 rfl) ?_
        refine tk_ViP (As := [.int y_14]) (rest := [.ref a_34]) (n := 1) hx hb hml hown hU hN hZ (s_X3_shortCode_k3 l (dC, dI) cI cL cZ cR cG cH Z kd L f_16 hG o0 mo0 ko0 y_14 (by constructor <;> omega)) wd_1321 wd_1322 wd_1323 wd_16 wd_1324 (by decide +kernel) ⟨Nat.le_of_ble_eq_true rfl, Nat.le_of_ble_eq_true rfl⟩ hK hP hD hS mo0 hfo_17 3 rfl rfl rfl hl.1 rfl (Nat.le_of_ble_eq_true rfl) dX3_clearMarks_16 ⟨Nat.le_of_ble_eq_true rfl, Nat.le_of_ble_eq_true rfl⟩ (fun x_37 f_38 H locs hw hP hD hS => ?_)
        obtain ⟨rfl, bx_37⟩ := hw
        refine lv_iconst (v := 0) hx hb dX3_clearMarks_19 (by decide) ?_
        obtain ⟨g_41, hfo_40, hbg_41⟩ := un_528 (hG _ ma_34) ka_34
        refine tk_istP hx hb hK hP hD hS 0 ma_34 hfo_40 rfl (vp_in_iff.mpr (by constructor <;> omega)) dX3_clearMarks_20 (fun H locs hP hD hS => ?_)
        obtain ⟨f_43, ef_43⟩ : ∃ y : Nat → va_E, y = va_up f_16 a_34 (.inl (cI, 6561, .inl (upd g_41 (Int32.toNatClampNeg x_37) 0))) := ⟨_, rfl⟩
        have hP : va_P (dC, dI) vwCl (va_pl L f_43) H := by rw [ef_43]; exact hP
        have hD : va_D (fun q => q ∈ L) (va_pl L f_43) := by rw [ef_43]; exact hD
        have hG : GI (okc cI cL cZ cR cG cH L kd) kd L f_43 := by rw [ef_43]; exact hG.set a_34 (mk_528 ka_34 ⟨_, rfl, okI_up hbg_41 ⟨i32_lo _, i32_hi _⟩ _⟩)
        have hfo_44 : f_43 o0 = .inr (3, [.ref a_18, .ref a_19, .ref a_20, .ref a_21, .ref a_22, .int v_23, .int v_24, .int v_25, .int v_26, .int v_27, .int v_28, .int v_29, .ref a_30, .ref a_31, .ref a_32, .int v_33, .ref a_34, .ref a_35]) := by rw [ef_43, up_ne (kd_ne ka_34 ko0 (by decide))]; exact hfo_17
        have hfr0 : ∀ b, kd b ≠ 528 → f_43 b = f b := fun b q528 => (congrFun ef_43 b).trans ((up_ne (fun e9 => q528 (by rw [e9]; exact ka_34))).trans (hfr0 b q528))
        have hfo_45 : f_43 a_34 = .inl (cI, 6561, .inl (upd g_41 (Int32.toNatClampNeg x_37) 0)) := by rw [ef_43]; exact up_self
        obtain ⟨x_46, ex_46⟩ : ∃ y : Int32, y_14 + 1 = y := ⟨_, rfl⟩
        have hx_46 : x_46.toInt = y_14.toInt + 1 := by rw [← ex_46, ad_I (by rw [ti_1]; omega) (by rw [ti_1]; omega), ti_1]
        have bx_46 : (1 ≤ x_46.toInt ∧ x_46.toInt ≤ 1024) := by constructor <;> omega
        refine lv_iinc (v := x_46) (lv' := [(1, .int x_46), (0, .ref o0)]) hx hb dX3_clearMarks_21 hl (k := 0) rfl ex_46 (by decide) rfl (fun ls hl => ?_)
        refine lv_goto (tgt := 2) hx hb dX3_clearMarks_24 (by decide) ?_
        exact ih_hloop_13 x_46 (by constructor <;> omega) f_43 hG _ _ hP hS hD hfr0 (by omega) ls (lv_sub hl [0, 1] rfl)
  exact hloop_13 1025 0 (by decide) f hG _ _ hP hS hD hfr0 (by (try rw [ti_0]) <;> omega) ls hl
set_option maxHeartbeats 8000000 in
set_option maxRecDepth 100000 in
theorem s_X3_clearNeeded_k3 (l : Launch) (D : va_G) (cI cL cZ cR cG cH : ClassId) (Z : zT) (kd : Nat → Nat) (L : List Nat) (f : Nat → va_E) (hG : GI (okc cI cL cZ cR cG cH L kd) kd L f) (o0 : Nat) (mo0 : o0 ∈ L) (ko0 : kd o0 = 3) : mPV l D cI cL cZ cR cG cH Z yX3_clearNeeded cX3_clearNeeded 1 none 1 23 [.ref o0] L f (fun (f9 : Nat → va_E) => GI (okc cI cL cZ cR cG cH L kd) kd L f9 ∧ (∀ b, kd b ≠ 529 → f9 b = f b)) := by
  obtain ⟨dC, dI⟩ := D
  refine Met.ofW (cc := cX3_clearNeeded) (maxL := 1) (ret := none) (by decide) rfl ?_
  intro p e s m args below meth c s₁ B hml hv
  obtain ⟨rfl, hP, hK, hD0, hN, hZ⟩ := hv
  have hx := B.exec
  have hb := B.bytes
  have hr := B.returns
  have hU : ∀ w ∈ wsU, w.before _ s = true := fun w h => atoms_spec (ws := wU yX3_clearNeeded cX3_clearNeeded 1 none) B.pre w (List.mem_cons_of_mem _ h)
  have hown : s.vm.findClass RX3 = some m.cls := findClass_of_methodNamed B.named
  have hlocks := B.notSynchronized
  have hD := pl_in hD0
  have hS : va_S (fun q => q ∈ L) s.heap s.heap [] := va_S.rf
  have hl := lv_entry ([.ref o0]) (n := 1) (Nat.le_of_ble_eq_true rfl)
  rw [lg_entry_eq]
  generalize (lg_sl ([.ref o0]) ++ List.replicate (1 - (lg_sl ([.ref o0])).length) Slot.unset).toArray = ls at hl ⊢
  have hl : lv_has ls 1 [(0, .ref o0)] := hl
  have hfr0 : ∀ b, kd b ≠ 529 → f b = f b := fun _ _ => rfl
  refine lv_aload_n hx hb dX3_clearNeeded_0 rfl (lv_at hl 0 rfl) ?_
  obtain ⟨a_2, a_3, a_4, a_5, a_6, v_7, v_8, v_9, v_10, v_11, v_12, v_13, a_14, a_15, a_16, v_17, a_18, a_19, hfo_1, ⟨ma_2, ka_2⟩, ⟨ma_3, ka_3⟩, ⟨ma_4, ka_4⟩, ⟨ma_5, ka_5⟩, ⟨ma_6, ka_6⟩, bv_7, bv_8, bv_9, ⟨ma_14, ka_14⟩, ⟨ma_15, ka_15⟩, ⟨ma_16, ka_16⟩, bv_17, ⟨ma_18, ka_18⟩, ⟨ma_19, ka_19⟩⟩ := un_3 (hG _ mo0) ko0
  have bv_10 : ((-2147483648) ≤ v_10.toInt ∧ v_10.toInt ≤ 2147483647) := ⟨i32_lo _, i32_hi _⟩
  have bv_11 : ((-2147483648) ≤ v_11.toInt ∧ v_11.toInt ≤ 2147483647) := ⟨i32_lo _, i32_hi _⟩
  have bv_12 : ((-2147483648) ≤ v_12.toInt ∧ v_12.toInt ≤ 2147483647) := ⟨i32_lo _, i32_hi _⟩
  have bv_13 : ((-2147483648) ≤ v_13.toInt ∧ v_13.toInt ≤ 2147483647) := ⟨i32_lo _, i32_hi _⟩
  refine tk_getP (D := (dC, dI)) (ci := 3) (v := .ref a_19) (C := RX3) (T := TX3) (N := 18) hx hb hU inlX3 hown hK hP mo0 hfo_1 rfl 17 (by decide) (hU _ wd_67) (fun _ h9 => h9) rfl dX3_clearNeeded_1 ?_
  refine lv_iconst (v := 0) hx hb dX3_clearNeeded_4 (by decide) ?_
  refine tk_SvP (As := [.ref a_19, .int 0]) (rest := []) (n := 2) hx hb hml hown hU hN hZ (s_J7_fill_53178_a529 l (dC, dI) cI cL cZ cR cG cH Z kd L f hG a_19 ma_19 ka_19 0 (by decide)) wd_1362 wd_266 wd_267 wd_268 (by decide +kernel) ⟨Nat.le_of_ble_eq_true rfl, Nat.le_of_ble_eq_true rfl⟩ hK hP hD hS rfl hl.1 rfl (Nat.le_of_ble_eq_true rfl) dX3_clearNeeded_5 ⟨Nat.le_of_ble_eq_true rfl, Nat.le_of_ble_eq_true rfl⟩ (fun f_21 H locs hw hP hD hS => ?_)
  obtain ⟨hG, hkc_22⟩ := hw
  have hfo_24 : f_21 o0 = .inr (3, [.ref a_2, .ref a_3, .ref a_4, .ref a_5, .ref a_6, .int v_7, .int v_8, .int v_9, .int v_10, .int v_11, .int v_12, .int v_13, .ref a_14, .ref a_15, .ref a_16, .int v_17, .ref a_18, .ref a_19]) := by rw [hkc_22 o0 (by rw [ko0]; decide)]; exact hfo_1
  have hfr0 : ∀ b, kd b ≠ 529 → f_21 b = f b := fun b q529 => (hkc_22 b q529).trans (hfr0 b q529)
  exact W.vret hx hb hr (fun t ht hW => ⟨⟨f_21, rfl, ⟨hG, hfr0⟩, by rw [ht]; exact hP, va_K.moved hW.alike hK, pl_in hD⟩, hS.F ht⟩) hS.2.2 dX3_clearNeeded_8
set_option maxHeartbeats 8000000 in
set_option maxRecDepth 100000 in
theorem s_X3_meetsNeeds_k3 (l : Launch) (D : va_G) (cI cL cZ cR cG cH : ClassId) (Z : zT) (kd : Nat → Nat) (L : List Nat) (f : Nat → va_E) (hG : GI (okc cI cL cZ cR cG cH L kd) kd L f) (o0 : Nat) (mo0 : o0 ∈ L) (ko0 : kd o0 = 3) (p1 : Int32) : mPI l D cI cL cZ cR cG cH Z yX3_meetsNeeds cX3_meetsNeeds 3 (some .boolean) 0 0 [.ref o0, .int p1] L f (fun (r : Int32) (f9 : Nat → va_E) => f = f9 ∧ (0 ≤ r.toInt ∧ r.toInt ≤ 1)) := by
  obtain ⟨dC, dI⟩ := D
  refine Met.ofW (cc := cX3_meetsNeeds) (maxL := 3) (ret := (some .boolean)) (by decide) rfl ?_
  intro p e s m args below meth c s₁ B hml hv
  obtain ⟨rfl, hP, hK, hD0, hN, hZ⟩ := hv
  have hx := B.exec
  have hb := B.bytes
  have hr := B.returns
  have hU : ∀ w ∈ wsU, w.before _ s = true := fun w h => atoms_spec (ws := wU yX3_meetsNeeds cX3_meetsNeeds 3 (some .boolean)) B.pre w (List.mem_cons_of_mem _ h)
  have hown : s.vm.findClass RX3 = some m.cls := findClass_of_methodNamed B.named
  have hlocks := B.notSynchronized
  have hD := pl_in hD0
  have hS : va_S (fun q => q ∈ L) s.heap s.heap [] := va_S.rf
  have hl := lv_entry ([.ref o0, .int p1]) (n := 3) (Nat.le_of_ble_eq_true rfl)
  rw [lg_entry_eq]
  generalize (lg_sl ([.ref o0, .int p1]) ++ List.replicate (3 - (lg_sl ([.ref o0, .int p1])).length) Slot.unset).toArray = ls at hl ⊢
  have hl : lv_has ls 3 [(0, .ref o0), (1, .int p1)] := hl
  have bp1 : ((-2147483648) ≤ p1.toInt ∧ p1.toInt ≤ 2147483647) := ⟨i32_lo _, i32_hi _⟩
  refine lv_iconst (v := 0) hx hb dX3_meetsNeeds_0 (by decide) ?_
  refine lv_istore_n (lv' := [(2, .int 0), (0, .ref o0), (1, .int p1)]) hx hb dX3_meetsNeeds_1 rfl hl (by decide) rfl (fun ls hl => ?_)
  have hloop_7 : ∀ (n : Nat), ∀ (y_8 : Int32), (0 ≤ y_8.toInt ∧ y_8.toInt ≤ 256) → 256 - y_8.toInt < (n : Int) → ∀ (ls : Array Slot), lv_has ls 3 [(2, .int y_8), (0, .ref o0), (1, .int p1)] → W p l e (headSpec (wU yX3_meetsNeeds cX3_meetsNeeds 3 (some .boolean)) { frames := 0, cells := 0, slots := 0, locals := 0 }).room s m [.ref o0, .int p1].toArray below meth c s.heap [] 0 0 (MQ below (va_Qi (fun (r : Int32) (f9 : Nat → va_E) => f = f9 ∧ (0 ≤ r.toInt ∧ r.toInt ≤ 1)) (qP (dC, dI) cI cL cZ cR cG cH L) (fun q => q ∈ L)) [.ref o0, .int p1].toArray s 0 0 (fun q => q ∈ L)) (F0 m 2 ls []) := by
    intro n
    induction n with
    | zero => intro y_8 by_8 hmuhloop_7 ls hl; exfalso; omega
    | succ n ih_hloop_7 =>
      intro y_8 by_8 hmuhloop_7 ls hl
      refine lv_iload_n hx hb dX3_meetsNeeds_2 rfl (lv_at hl 0 rfl) ?_
      refine lv_sipush (v := 256) hx hb dX3_meetsNeeds_3 (by decide) ?_
      refine lv_icmp_ge (tgt := 33) hx hb dX3_meetsNeeds_6 (by decide) (fun c_9 => ?_) (fun c_9 => ?_)
      · skip
        rw [Int32.le_iff_toInt_le, ti_256] at c_9
        refine lv_iconst (v := 1) hx hb dX3_meetsNeeds_33 (by decide) ?_
        exact W.zret (v := 1) (ty := .boolean) hx hb hr rfl (fun t ht hW => ⟨⟨1, f, rfl, ⟨rfl, (by decide)⟩, by rw [ht]; exact hP, va_K.moved hW.alike hK, pl_in hD⟩, hS.F ht⟩) hS.2.2 dX3_meetsNeeds_34
      · skip
        rw [Int32.le_iff_toInt_le, ti_256] at c_9
        refine lv_aload_n hx hb dX3_meetsNeeds_9 rfl (lv_at hl 1 rfl) ?_
        obtain ⟨a_11, a_12, a_13, a_14, a_15, v_16, v_17, v_18, v_19, v_20, v_21, v_22, a_23, a_24, a_25, v_26, a_27, a_28, hfo_10, ⟨ma_11, ka_11⟩, ⟨ma_12, ka_12⟩, ⟨ma_13, ka_13⟩, ⟨ma_14, ka_14⟩, ⟨ma_15, ka_15⟩, bv_16, bv_17, bv_18, ⟨ma_23, ka_23⟩, ⟨ma_24, ka_24⟩, ⟨ma_25, ka_25⟩, bv_26, ⟨ma_27, ka_27⟩, ⟨ma_28, ka_28⟩⟩ := un_3 (hG _ mo0) ko0
        have bv_19 : ((-2147483648) ≤ v_19.toInt ∧ v_19.toInt ≤ 2147483647) := ⟨i32_lo _, i32_hi _⟩
        have bv_20 : ((-2147483648) ≤ v_20.toInt ∧ v_20.toInt ≤ 2147483647) := ⟨i32_lo _, i32_hi _⟩
        have bv_21 : ((-2147483648) ≤ v_21.toInt ∧ v_21.toInt ≤ 2147483647) := ⟨i32_lo _, i32_hi _⟩
        have bv_22 : ((-2147483648) ≤ v_22.toInt ∧ v_22.toInt ≤ 2147483647) := ⟨i32_lo _, i32_hi _⟩
        refine tk_getP (D := (dC, dI)) (ci := 3) (v := .ref a_28) (C := RX3) (T := TX3) (N := 18) hx hb hU inlX3 hown hK hP mo0 hfo_10 rfl 17 (by decide) (hU _ wd_67) (fun _ h9 => h9) rfl dX3_meetsNeeds_10 ?_
        refine lv_iload_n hx hb dX3_meetsNeeds_13 rfl (lv_at hl 0 rfl) ?_
        obtain ⟨g_30, hfo_29, hbg_30⟩ := un_529 (hG _ ma_28) ka_28
        refine tk_ildP hx hb hK hP 0 ma_28 hfo_29 rfl (vp_in_iff.mpr (by constructor <;> omega)) dX3_meetsNeeds_14 ?_
        refine lv_topi (fun x_31 ex_31 => ?_)
        have bx_31 : ((-2147483648) ≤ x_31.toInt ∧ x_31.toInt ≤ 2147483647) := ⟨i32_lo _, i32_hi _⟩
        refine lv_iconst (v := 1) hx hb dX3_meetsNeeds_15 (by decide) ?_
        refine lv_icmp_ne (tgt := 27) hx hb dX3_meetsNeeds_16 (by decide) (fun c_32 => ?_) (fun c_32 => ?_)
        · skip
          rw [← Int32.toInt_inj, ti_1] at c_32
          obtain ⟨x_33, ex_33⟩ : ∃ y : Int32, y_8 + 1 = y := ⟨_, rfl⟩
          have hx_33 : x_33.toInt = y_8.toInt + 1 := by rw [← ex_33, ad_I (by rw [ti_1]; omega) (by rw [ti_1]; omega), ti_1]
          have bx_33 : (1 ≤ x_33.toInt ∧ x_33.toInt ≤ 256) := by constructor <;> omega
          refine lv_iinc (v := x_33) (lv' := [(2, .int x_33), (0, .ref o0), (1, .int p1)]) hx hb dX3_meetsNeeds_27 hl (k := 0) rfl ex_33 (by decide) rfl (fun ls hl => ?_)
          refine lv_goto (tgt := 2) hx hb dX3_meetsNeeds_30 (by decide) ?_
          exact ih_hloop_7 x_33 (by constructor <;> omega) (by omega) ls (lv_sub hl [0, 1, 2] rfl)
        · skip
          rw [← Int32.toInt_inj, ti_1] at c_32
          refine lv_iload_n hx hb dX3_meetsNeeds_19 rfl (lv_at hl 0 rfl) ?_
          refine lv_iload_n hx hb dX3_meetsNeeds_20 rfl (lv_at hl 2 rfl) ?_
          refine lv_iand hx hb dX3_meetsNeeds_21 ?_
          refine lv_topi (fun x_34 ex_34 => ?_)
          have bx_34 : ((-2147483648) ≤ x_34.toInt ∧ x_34.toInt ≤ 2147483647) := ⟨i32_lo _, i32_hi _⟩
          refine lv_if_ne (tgt := 27) hx hb dX3_meetsNeeds_22 (by decide) (fun c_35 => ?_) (fun c_35 => ?_)
          · skip
            rw [← Int32.toInt_inj, ti_0] at c_35
            obtain ⟨x_36, ex_36⟩ : ∃ y : Int32, y_8 + 1 = y := ⟨_, rfl⟩
            have hx_36 : x_36.toInt = y_8.toInt + 1 := by rw [← ex_36, ad_I (by rw [ti_1]; omega) (by rw [ti_1]; omega), ti_1]
            have bx_36 : (1 ≤ x_36.toInt ∧ x_36.toInt ≤ 256) := by constructor <;> omega
            refine lv_iinc (v := x_36) (lv' := [(2, .int x_36), (0, .ref o0), (1, .int p1)]) hx hb dX3_meetsNeeds_27 hl (k := 0) rfl ex_36 (by decide) rfl (fun ls hl => ?_)
            refine lv_goto (tgt := 2) hx hb dX3_meetsNeeds_30 (by decide) ?_
            exact ih_hloop_7 x_36 (by constructor <;> omega) (by omega) ls (lv_sub hl [0, 1, 2] rfl)
          · skip
            rw [← Int32.toInt_inj, ti_0] at c_35
            refine lv_iconst (v := 0) hx hb dX3_meetsNeeds_25 (by decide) ?_
            exact W.zret (v := 0) (ty := .boolean) hx hb hr rfl (fun t ht hW => ⟨⟨0, f, rfl, ⟨rfl, (by decide)⟩, by rw [ht]; exact hP, va_K.moved hW.alike hK, pl_in hD⟩, hS.F ht⟩) hS.2.2 dX3_meetsNeeds_26
  exact hloop_7 257 0 (by decide) (by (try rw [ti_0]) <;> omega) ls hl
set_option maxHeartbeats 8000000 in
set_option maxRecDepth 100000 in
theorem s_X3_leastThatMeetsNeeds_k3 (l : Launch) (D : va_G) (cI cL cZ cR cG cH : ClassId) (Z : zT) (kd : Nat → Nat) (L : List Nat) (f : Nat → va_E) (hG : GI (okc cI cL cZ cR cG cH L kd) kd L f) (o0 : Nat) (mo0 : o0 ∈ L) (ko0 : kd o0 = 3) (p1 : Int32) : mPI l D cI cL cZ cR cG cH Z yX3_leastThatMeetsNeeds cX3_leastThatMeetsNeeds 5 (some .int) 1 22 [.ref o0, .int p1] L f (fun (r : Int32) (f9 : Nat → va_E) => f = f9 ∧ ((-2147483648) ≤ r.toInt ∧ r.toInt ≤ 2147483647)) := by
  obtain ⟨dC, dI⟩ := D
  refine Met.ofW (cc := cX3_leastThatMeetsNeeds) (maxL := 5) (ret := (some .int)) (by decide) rfl ?_
  intro p e s m args below meth c s₁ B hml hv
  obtain ⟨rfl, hP, hK, hD0, hN, hZ⟩ := hv
  have hx := B.exec
  have hb := B.bytes
  have hr := B.returns
  have hU : ∀ w ∈ wsU, w.before _ s = true := fun w h => atoms_spec (ws := wU yX3_leastThatMeetsNeeds cX3_leastThatMeetsNeeds 5 (some .int)) B.pre w (List.mem_cons_of_mem _ h)
  have hown : s.vm.findClass RX3 = some m.cls := findClass_of_methodNamed B.named
  have hlocks := B.notSynchronized
  have hD := pl_in hD0
  have hS : va_S (fun q => q ∈ L) s.heap s.heap [] := va_S.rf
  have hl := lv_entry ([.ref o0, .int p1]) (n := 5) (Nat.le_of_ble_eq_true rfl)
  rw [lg_entry_eq]
  generalize (lg_sl ([.ref o0, .int p1]) ++ List.replicate (5 - (lg_sl ([.ref o0, .int p1])).length) Slot.unset).toArray = ls at hl ⊢
  have hl : lv_has ls 5 [(0, .ref o0), (1, .int p1)] := hl
  have bp1 : ((-2147483648) ≤ p1.toInt ∧ p1.toInt ≤ 2147483647) := ⟨i32_lo _, i32_hi _⟩
  refine lv_iload_n hx hb dX3_leastThatMeetsNeeds_0 rfl (lv_at hl 1 rfl) ?_
  refine lv_istore_n (lv' := [(2, .int p1), (0, .ref o0), (1, .int p1)]) hx hb dX3_leastThatMeetsNeeds_1 rfl hl (by decide) rfl (fun ls hl => ?_)
  refine lv_iconst (v := 0) hx hb dX3_leastThatMeetsNeeds_2 (by decide) ?_
  refine lv_istore_n (lv' := [(3, .int 0), (2, .int p1), (0, .ref o0), (1, .int p1)]) hx hb dX3_leastThatMeetsNeeds_3 rfl hl (by decide) rfl (fun ls hl => ?_)
  have hloop_16 : ∀ (n : Nat), ∀ (y_17 : Int32), (0 ≤ y_17.toInt ∧ y_17.toInt ≤ 256) → ∀ (y_18 : Int32), ((-2147483648) ≤ y_18.toInt ∧ y_18.toInt ≤ 2147483647) → ∀ (H : Heap) (locs : List Loc), va_P (dC, dI) vwCl (va_pl L f) H → va_S (fun q => q ∈ L) s.heap H locs → 256 - y_17.toInt < (n : Int) → ∀ (ls : Array Slot), lv_has ls 5 [(3, .int y_17), (2, .int y_18), (0, .ref o0), (1, .int p1)] → W p l e (headSpec (wU yX3_leastThatMeetsNeeds cX3_leastThatMeetsNeeds 5 (some .int)) { frames := 1, cells := 0, slots := 0, locals := 22 }).room s m [.ref o0, .int p1].toArray below meth c H locs 0 0 (MQ below (va_Qi (fun (r : Int32) (f9 : Nat → va_E) => f = f9 ∧ ((-2147483648) ≤ r.toInt ∧ r.toInt ≤ 2147483647)) (qP (dC, dI) cI cL cZ cR cG cH L) (fun q => q ∈ L)) [.ref o0, .int p1].toArray s 0 0 (fun q => q ∈ L)) (F0 m 4 ls []) := by
    intro n
    induction n with
    | zero => intro y_17 by_17 y_18 by_18 H locs hP hS hmuhloop_16 ls hl; exfalso; omega
    | succ n ih_hloop_16 =>
      intro y_17 by_17 y_18 by_18 H locs hP hS hmuhloop_16 ls hl
      refine lv_iload_n hx hb dX3_leastThatMeetsNeeds_4 rfl (lv_at hl 0 rfl) ?_
      refine lv_sipush (v := 256) hx hb dX3_leastThatMeetsNeeds_5 (by decide) ?_
      refine lv_icmp_ge (tgt := 58) hx hb dX3_leastThatMeetsNeeds_8 (by decide) (fun c_20 => ?_) (fun c_20 => ?_)
      · skip
        rw [Int32.le_iff_toInt_le, ti_256] at c_20
        refine lv_iload_n hx hb dX3_leastThatMeetsNeeds_58 rfl (lv_at hl 1 rfl) ?_
        exact W.iret (v := y_18) hx hb hr (fun t ht hW => ⟨⟨y_18, f, rfl, ⟨rfl, (by constructor <;> omega)⟩, by rw [ht]; exact hP, va_K.moved hW.alike hK, pl_in hD⟩, hS.F ht⟩) hS.2.2 dX3_leastThatMeetsNeeds_59
      · skip
        rw [Int32.le_iff_toInt_le, ti_256] at c_20
        refine lv_iload_n hx hb dX3_leastThatMeetsNeeds_11 rfl (lv_at hl 0 rfl) ?_
        refine tk_SiP (As := [.int y_17]) (rest := []) (n := 1) hx hb hml hown hU hN hZ (s_J6_bitCount_0f7a4 l (dC, dI) cI cL cZ cR cG cH Z kd L f hG y_17) wd_1371 wd_1184 wd_1185 wd_1186 (by decide +kernel) ⟨Nat.le_of_ble_eq_true rfl, Nat.le_of_ble_eq_true rfl⟩ hK hP hD hS rfl hl.1 rfl (Nat.le_of_ble_eq_true rfl) dX3_leastThatMeetsNeeds_12 ⟨Nat.le_of_ble_eq_true rfl, Nat.le_of_ble_eq_true rfl⟩ (fun x_21 f_22 H locs hw hP hD hS => ?_)
        obtain ⟨rfl, bx_21⟩ := hw
        refine lv_iload_n hx hb dX3_leastThatMeetsNeeds_15 rfl (lv_at hl 1 rfl) ?_
        refine tk_SiP (As := [.int y_18]) (rest := [.int x_21]) (n := 1) hx hb hml hown hU hN hZ (s_J6_bitCount_0f7a4 l (dC, dI) cI cL cZ cR cG cH Z kd L f hG y_18) wd_1371 wd_1184 wd_1185 wd_1186 (by decide +kernel) ⟨Nat.le_of_ble_eq_true rfl, Nat.le_of_ble_eq_true rfl⟩ hK hP hD hS rfl hl.1 rfl (Nat.le_of_ble_eq_true rfl) dX3_leastThatMeetsNeeds_16 ⟨Nat.le_of_ble_eq_true rfl, Nat.le_of_ble_eq_true rfl⟩ (fun x_24 f_25 H locs hw hP hD hS => ?_)
        obtain ⟨rfl, bx_24⟩ := hw
        have hcut_28 : ∀ (y_27 : Int32), (0 ≤ y_27.toInt ∧ y_27.toInt ≤ 1) → ∀ (ls : Array Slot), lv_has ls 5 [(3, .int y_17), (2, .int y_18), (0, .ref o0), (1, .int p1)] → W p l e (headSpec (wU yX3_leastThatMeetsNeeds cX3_leastThatMeetsNeeds 5 (some .int)) { frames := 1, cells := 0, slots := 0, locals := 22 }).room s m [.ref o0, .int p1].toArray below meth c H locs 0 0 (MQ below (va_Qi (fun (r : Int32) (f9 : Nat → va_E) => f = f9 ∧ ((-2147483648) ≤ r.toInt ∧ r.toInt ≤ 2147483647)) (qP (dC, dI) cI cL cZ cR cG cH L) (fun q => q ∈ L)) [.ref o0, .int p1].toArray s 0 0 (fun q => q ∈ L)) (F0 m 27 ls [.int y_27]) := by
          intro y_27 by_27 ls hl
          refine lv_istore (lv' := [(4, .int y_27), (3, .int y_17), (2, .int y_18), (0, .ref o0), (1, .int p1)]) hx hb dX3_leastThatMeetsNeeds_27 hl (by decide) rfl (fun ls hl => ?_)
          refine lv_iload_n hx hb dX3_leastThatMeetsNeeds_29 rfl (lv_at hl 1 rfl) ?_
          refine lv_iload_n hx hb dX3_leastThatMeetsNeeds_30 rfl (lv_at hl 4 rfl) ?_
          refine lv_iconst (v := (-1)) hx hb dX3_leastThatMeetsNeeds_31 (by decide) ?_
          refine lv_ixor hx hb dX3_leastThatMeetsNeeds_32 ?_
          refine lv_topi (fun x_29 ex_29 => ?_)
          have bx_29 : ((-2147483648) ≤ x_29.toInt ∧ x_29.toInt ≤ 2147483647) := ⟨i32_lo _, i32_hi _⟩
          refine lv_iand hx hb dX3_leastThatMeetsNeeds_33 ?_
          refine lv_topi (fun x_30 ex_30 => ?_)
          have bx_30 : ((-2147483648) ≤ x_30.toInt ∧ x_30.toInt ≤ 2147483647) := ⟨i32_lo _, i32_hi _⟩
          have hcut_33 : ∀ (y_31 : Int32), ((-2147483648) ≤ y_31.toInt ∧ y_31.toInt ≤ 2147483647) → ∀ (H : Heap) (locs : List Loc), va_P (dC, dI) vwCl (va_pl L f) H → va_S (fun q => q ∈ L) s.heap H locs → ∀ (ls : Array Slot), lv_has ls 5 [(4, .int y_27), (3, .int y_17), (2, .int y_31), (0, .ref o0), (1, .int p1)] → W p l e (headSpec (wU yX3_leastThatMeetsNeeds cX3_leastThatMeetsNeeds 5 (some .int)) { frames := 1, cells := 0, slots := 0, locals := 22 }).room s m [.ref o0, .int p1].toArray below meth c H locs 0 0 (MQ below (va_Qi (fun (r : Int32) (f9 : Nat → va_E) => f = f9 ∧ ((-2147483648) ≤ r.toInt ∧ r.toInt ≤ 2147483647)) (qP (dC, dI) cI cL cZ cR cG cH L) (fun q => q ∈ L)) [.ref o0, .int p1].toArray s 0 0 (fun q => q ∈ L)) (F0 m 52 ls []) := by
            intro y_31 by_31 H locs hP hS ls hl
            obtain ⟨x_34, ex_34⟩ : ∃ y : Int32, y_17 + 1 = y := ⟨_, rfl⟩
            have hx_34 : x_34.toInt = y_17.toInt + 1 := by rw [← ex_34, ad_I (by rw [ti_1]; omega) (by rw [ti_1]; omega), ti_1]
            have bx_34 : (1 ≤ x_34.toInt ∧ x_34.toInt ≤ 256) := by constructor <;> omega
            refine lv_iinc (v := x_34) (lv' := [(3, .int x_34), (4, .int y_27), (2, .int y_31), (0, .ref o0), (1, .int p1)]) hx hb dX3_leastThatMeetsNeeds_52 hl (k := 1) rfl ex_34 (by decide) rfl (fun ls hl => ?_)
            refine lv_goto (tgt := 4) hx hb dX3_leastThatMeetsNeeds_55 (by decide) ?_
            exact ih_hloop_16 x_34 (by constructor <;> omega) y_31 (by constructor <;> omega) _ _ hP hS (by omega) ls (lv_sub hl [0, 2, 3, 4] rfl)
          refine lv_if_ne (tgt := 52) hx hb dX3_leastThatMeetsNeeds_34 (by decide) (fun c_35 => ?_) (fun c_35 => ?_)
          · skip
            rw [← Int32.toInt_inj, ti_0] at c_35
            exact hcut_33 y_18 (by constructor <;> omega) _ _ hP hS ls (lv_sub hl [0, 1, 2, 3, 4] rfl)
          · skip
            rw [← Int32.toInt_inj, ti_0] at c_35
            refine lv_iload hx hb dX3_leastThatMeetsNeeds_37 (lv_at hl 0 rfl) ?_
            refine lv_if_eq (tgt := 52) hx hb dX3_leastThatMeetsNeeds_39 (by decide) (fun c_36 => ?_) (fun c_36 => ?_)
            · skip
              rw [← Int32.toInt_inj, ti_0] at c_36
              exact hcut_33 y_18 (by constructor <;> omega) _ _ hP hS ls (lv_sub hl [0, 1, 2, 3, 4] rfl)
            · skip
              rw [← Int32.toInt_inj, ti_0] at c_36
              refine lv_aload_n hx hb dX3_leastThatMeetsNeeds_42 rfl (lv_at hl 3 rfl) ?_
              refine lv_iload_n hx hb dX3_leastThatMeetsNeeds_43 rfl (lv_at hl 1 rfl) ?_
              obtain ⟨a_38, a_39, a_40, a_41, a_42, v_43, v_44, v_45, v_46, v_47, v_48, v_49, a_50, a_51, a_52, v_53, a_54, a_55, hfo_37, ⟨ma_38, ka_38⟩, ⟨ma_39, ka_39⟩, ⟨ma_40, ka_40⟩, ⟨ma_41, ka_41⟩, ⟨ma_42, ka_42⟩, bv_43, bv_44, bv_45, ⟨ma_50, ka_50⟩, ⟨ma_51, ka_51⟩, ⟨ma_52, ka_52⟩, bv_53, ⟨ma_54, ka_54⟩, ⟨ma_55, ka_55⟩⟩ := un_3 (hG _ mo0) ko0
              have bv_46 : ((-2147483648) ≤ v_46.toInt ∧ v_46.toInt ≤ 2147483647) := ⟨i32_lo _, i32_hi _⟩
              have bv_47 : ((-2147483648) ≤ v_47.toInt ∧ v_47.toInt ≤ 2147483647) := ⟨i32_lo _, i32_hi _⟩
              have bv_48 : ((-2147483648) ≤ v_48.toInt ∧ v_48.toInt ≤ 2147483647) := ⟨i32_lo _, i32_hi _⟩
              have bv_49 : ((-2147483648) ≤ v_49.toInt ∧ v_49.toInt ≤ 2147483647) := ⟨i32_lo _, i32_hi _⟩
              refine tk_ViP (As := [.int y_17]) (rest := []) (n := 1) hx hb hml hown hU hN hZ (s_X3_meetsNeeds_k3 l (dC, dI) cI cL cZ cR cG cH Z kd L f hG o0 mo0 ko0 y_17) wd_1372 wd_1373 wd_1374 wd_16 wd_1375 (by decide +kernel) ⟨Nat.le_of_ble_eq_true rfl, Nat.le_of_ble_eq_true rfl⟩ hK hP hD hS mo0 hfo_37 3 rfl rfl rfl hl.1 rfl (Nat.le_of_ble_eq_true rfl) dX3_leastThatMeetsNeeds_44 ⟨Nat.le_of_ble_eq_true rfl, Nat.le_of_ble_eq_true rfl⟩ (fun x_56 f_57 H locs hw hP hD hS => ?_)
              obtain ⟨rfl, bx_56⟩ := hw
              refine lv_if_eq (tgt := 52) hx hb dX3_leastThatMeetsNeeds_47 (by decide) (fun c_59 => ?_) (fun c_59 => ?_)
              · skip
                rw [← Int32.toInt_inj, ti_0] at c_59
                exact hcut_33 y_18 (by constructor <;> omega) _ _ hP hS ls (lv_sub hl [0, 1, 2, 3, 4] rfl)
              · skip
                rw [← Int32.toInt_inj, ti_0] at c_59
                refine lv_iload_n hx hb dX3_leastThatMeetsNeeds_50 rfl (lv_at hl 1 rfl) ?_
                refine lv_istore_n (lv' := [(2, .int y_17), (4, .int y_27), (3, .int y_17), (0, .ref o0), (1, .int p1)]) hx hb dX3_leastThatMeetsNeeds_51 rfl hl (by decide) rfl (fun ls hl => ?_)
                exact hcut_33 y_17 (by constructor <;> omega) _ _ hP hS ls (lv_sub hl [1, 2, 0, 3, 4] rfl)
        refine lv_icmp_ge (tgt := 26) hx hb dX3_leastThatMeetsNeeds_19 (by decide) (fun c_60 => ?_) (fun c_60 => ?_)
        · skip
          rw [Int32.le_iff_toInt_le] at c_60
          refine lv_iconst (v := 0) hx hb dX3_leastThatMeetsNeeds_26 (by decide) ?_
          exact hcut_28 0 (by decide) ls (lv_sub hl [0, 1, 2, 3] rfl)
        · skip
          rw [Int32.le_iff_toInt_le] at c_60
          refine lv_iconst (v := 1) hx hb dX3_leastThatMeetsNeeds_22 (by decide) ?_
          refine lv_goto (tgt := 27) hx hb dX3_leastThatMeetsNeeds_23 (by decide) ?_
          exact hcut_28 1 (by decide) ls (lv_sub hl [0, 1, 2, 3] rfl)
  exact hloop_16 257 0 (by decide) p1 (by constructor <;> omega) _ _ hP hS (by (try rw [ti_0]) <;> omega) ls hl
set_option maxHeartbeats 8000000 in
set_option maxRecDepth 100000 in
theorem s_X3_takeNumbered_k3 (l : Launch) (D : va_G) (cI cL cZ cR cG cH : ClassId) (Z : zT) (kd : Nat → Nat) (L : List Nat) (f : Nat → va_E) (hG : GI (okc cI cL cZ cR cG cH L kd) kd L f) (o0 : Nat) (mo0 : o0 ∈ L) (ko0 : kd o0 = 3) (p1 : Int32) (p2 : Int32) (bp2 : (0 ≤ p2.toInt ∧ p2.toInt ≤ 2147483647)) : mPV l D cI cL cZ cR cG cH Z yX3_takeNumbered cX3_takeNumbered 6 none 1 40 [.ref o0, .int p1, .int p2] L f (fun (f9 : Nat → va_E) => GI (okc cI cL cZ cR cG cH L kd) kd L f9 ∧ (∀ b, kd b ≠ 3 → kd b ≠ 507 → f9 b = f b) ∧ (∀ b, kd b = 3 → fldR (f9 b) 0 = fldR (f b) 0) ∧ (∀ b, kd b = 3 → fldR (f9 b) 3 = fldR (f b) 3)) := by
  obtain ⟨dC, dI⟩ := D
  refine Met.ofW (cc := cX3_takeNumbered) (maxL := 6) (ret := none) (by decide) rfl ?_
  intro p e s m args below meth c s₁ B hml hv
  obtain ⟨rfl, hP, hK, hD0, hN, hZ⟩ := hv
  have hx := B.exec
  have hb := B.bytes
  have hr := B.returns
  have hU : ∀ w ∈ wsU, w.before _ s = true := fun w h => atoms_spec (ws := wU yX3_takeNumbered cX3_takeNumbered 6 none) B.pre w (List.mem_cons_of_mem _ h)
  have hown : s.vm.findClass RX3 = some m.cls := findClass_of_methodNamed B.named
  have hlocks := B.notSynchronized
  have hD := pl_in hD0
  have hS : va_S (fun q => q ∈ L) s.heap s.heap [] := va_S.rf
  have hl := lv_entry ([.ref o0, .int p1, .int p2]) (n := 6) (Nat.le_of_ble_eq_true rfl)
  rw [lg_entry_eq]
  generalize (lg_sl ([.ref o0, .int p1, .int p2]) ++ List.replicate (6 - (lg_sl ([.ref o0, .int p1, .int p2])).length) Slot.unset).toArray = ls at hl ⊢
  have hl : lv_has ls 6 [(0, .ref o0), (1, .int p1), (2, .int p2)] := hl
  have bp1 : ((-2147483648) ≤ p1.toInt ∧ p1.toInt ≤ 2147483647) := ⟨i32_lo _, i32_hi _⟩
  have hfr0 : ∀ b, kd b ≠ 3 → kd b ≠ 507 → f b = f b := fun _ _ _ => rfl
  have hrr3_0 : ∀ b, kd b = 3 → fldR (f b) 0 = fldR (f b) 0 := fun _ _ => rfl
  have hrr3_3 : ∀ b, kd b = 3 → fldR (f b) 3 = fldR (f b) 3 := fun _ _ => rfl
  refine lv_iload_n hx hb dX3_takeNumbered_0 rfl (lv_at hl 2 rfl) ?_
  refine lv_istore_n (lv' := [(3, .int p2), (0, .ref o0), (1, .int p1), (2, .int p2)]) hx hb dX3_takeNumbered_1 rfl hl (by decide) rfl (fun ls hl => ?_)
  refine lv_iconst (v := 1) hx hb dX3_takeNumbered_2 (by decide) ?_
  refine lv_aload_n hx hb dX3_takeNumbered_3 rfl (lv_at hl 1 rfl) ?_
  obtain ⟨a_2, a_3, a_4, a_5, a_6, v_7, v_8, v_9, v_10, v_11, v_12, v_13, a_14, a_15, a_16, v_17, a_18, a_19, hfo_1, ⟨ma_2, ka_2⟩, ⟨ma_3, ka_3⟩, ⟨ma_4, ka_4⟩, ⟨ma_5, ka_5⟩, ⟨ma_6, ka_6⟩, bv_7, bv_8, bv_9, ⟨ma_14, ka_14⟩, ⟨ma_15, ka_15⟩, ⟨ma_16, ka_16⟩, bv_17, ⟨ma_18, ka_18⟩, ⟨ma_19, ka_19⟩⟩ := un_3 (hG _ mo0) ko0
  have bv_10 : ((-2147483648) ≤ v_10.toInt ∧ v_10.toInt ≤ 2147483647) := ⟨i32_lo _, i32_hi _⟩
  have bv_11 : ((-2147483648) ≤ v_11.toInt ∧ v_11.toInt ≤ 2147483647) := ⟨i32_lo _, i32_hi _⟩
  have bv_12 : ((-2147483648) ≤ v_12.toInt ∧ v_12.toInt ≤ 2147483647) := ⟨i32_lo _, i32_hi _⟩
  have bv_13 : ((-2147483648) ≤ v_13.toInt ∧ v_13.toInt ≤ 2147483647) := ⟨i32_lo _, i32_hi _⟩
  refine tk_getP (D := (dC, dI)) (ci := 3) (v := .ref a_2) (C := RX3) (T := TX3) (N := 18) hx hb hU inlX3 hown hK hP mo0 hfo_1 rfl 0 (by decide) (hU _ wd_48) (fun _ h9 => h9) rfl dX3_takeNumbered_4 ?_
  obtain ⟨a_21, v_22, a_23, a_24, a_25, a_26, v_27, a_28, a_29, a_30, a_31, a_32, v_33, a_34, a_35, a_36, hfo_20, ⟨ma_21, ka_21⟩, bv_22, ⟨ma_23, ka_23⟩, ⟨ma_24, ka_24⟩, ⟨ma_25, ka_25⟩, ⟨ma_26, ka_26⟩, bv_27, ⟨ma_28, ka_28⟩, ⟨ma_29, ka_29⟩, ⟨ma_30, ka_30⟩, ⟨ma_31, ka_31⟩, ⟨ma_32, ka_32⟩, bv_33, ⟨ma_34, ka_34⟩, ⟨ma_35, ka_35⟩, ⟨ma_36, ka_36⟩⟩ := un_7 (hG _ ma_2) ka_2
  refine tk_getP (D := (dC, dI)) (ci := 7) (v := .int v_22) (C := RX7) (T := TX7) (N := 16) hx hb hU inlX7 hown hK hP ma_2 hfo_20 rfl 1 (by decide) (hU _ wd_1156) (fun _ h9 => h9) rfl dX3_takeNumbered_7 ?_
  refine va_mmax hx hb (by rw [hml]; exact hl.1.symm) hown (hU _ wd_723) (hU _ wd_724) (hU _ wd_249) (hU _ wd_725) (Nat.le_of_ble_eq_true rfl) (Nat.le_of_ble_eq_true rfl) (Nat.le_of_ble_eq_true rfl) (Nat.le_of_ble_eq_true rfl) dX3_takeNumbered_10 ?_
  refine lv_topi (fun x_37 ex_37 => ?_)
  have hx_37 := max_I ex_37
  rw [ti_1] at hx_37
  have bx_37 : (1 ≤ x_37.toInt ∧ x_37.toInt ≤ 8) := by constructor <;> omega
  refine lv_istore (lv' := [(4, .int x_37), (3, .int p2), (0, .ref o0), (1, .int p1), (2, .int p2)]) hx hb dX3_takeNumbered_13 hl (by decide) rfl (fun ls hl => ?_)
  refine lv_aload_n hx hb dX3_takeNumbered_15 rfl (lv_at hl 2 rfl) ?_
  refine lv_iconst (v := 0) hx hb dX3_takeNumbered_16 (by decide) ?_
  refine lv_iload_n hx hb dX3_takeNumbered_17 rfl (lv_at hl 3 rfl) ?_
  refine lv_bipush (v := 8) hx hb dX3_takeNumbered_18 (by decide) ?_
  refine va_mmin hx hb (by rw [hml]; exact hl.1.symm) hown (hU _ wd_722) (hU _ wd_248) (hU _ wd_249) (hU _ wd_250) (Nat.le_of_ble_eq_true rfl) (Nat.le_of_ble_eq_true rfl) (Nat.le_of_ble_eq_true rfl) (Nat.le_of_ble_eq_true rfl) dX3_takeNumbered_20 ?_
  refine lv_topi (fun x_38 ex_38 => ?_)
  have hx_38 := min_I ex_38
  rw [ti_8] at hx_38
  have bx_38 : ((-2147483648) ≤ x_38.toInt ∧ x_38.toInt ≤ 8) := by constructor <;> omega
  refine va_mmax hx hb (by rw [hml]; exact hl.1.symm) hown (hU _ wd_723) (hU _ wd_724) (hU _ wd_249) (hU _ wd_725) (Nat.le_of_ble_eq_true rfl) (Nat.le_of_ble_eq_true rfl) (Nat.le_of_ble_eq_true rfl) (Nat.le_of_ble_eq_true rfl) dX3_takeNumbered_23 ?_
  refine lv_topi (fun x_39 ex_39 => ?_)
  have hx_39 := max_I ex_39
  rw [ti_0] at hx_39
  have bx_39 : (0 ≤ x_39.toInt ∧ x_39.toInt ≤ 8) := by constructor <;> omega
  refine tk_putP (D := (dC, dI)) (ci := 3) (v := .int x_39) (ty := .int) (C := RX3) (T := TX3) (N := 18) hx hb hU inlX3 tyX3 tyX3_ok nmX3 hown hK hP hD hS mo0 hfo_1 rfl 5 (by decide) (hU _ wd_726) (fun _ h9 => h9) rfl (by decide +kernel) rfl rfl (Nat.le_of_ble_eq_true rfl) dX3_takeNumbered_26 (fun H locs hP hD hS => ?_)
  obtain ⟨f_41, ef_41⟩ : ∃ y : Nat → va_E, y = va_up f o0 (.inr (3, [.ref a_2, .ref a_3, .ref a_4, .ref a_5, .ref a_6, .int x_39, .int v_8, .int v_9, .int v_10, .int v_11, .int v_12, .int v_13, .ref a_14, .ref a_15, .ref a_16, .int v_17, .ref a_18, .ref a_19])) := ⟨_, rfl⟩
  have hP : va_P (dC, dI) vwCl (va_pl L f_41) H := by rw [ef_41]; exact hP
  have hD : va_D (fun q => q ∈ L) (va_pl L f_41) := by rw [ef_41]; exact hD
  have hG : GI (okc cI cL cZ cR cG cH L kd) kd L f_41 := by rw [ef_41]; exact hG.set o0 (mk_3 ko0 ⟨a_2, a_3, a_4, a_5, a_6, x_39, v_8, v_9, v_10, v_11, v_12, v_13, a_14, a_15, a_16, v_17, a_18, a_19, rfl, ⟨ma_2, ka_2⟩, ⟨ma_3, ka_3⟩, ⟨ma_4, ka_4⟩, ⟨ma_5, ka_5⟩, ⟨ma_6, ka_6⟩, (by constructor <;> omega), (by constructor <;> omega), (by constructor <;> omega), ⟨ma_14, ka_14⟩, ⟨ma_15, ka_15⟩, ⟨ma_16, ka_16⟩, (by constructor <;> omega), ⟨ma_18, ka_18⟩, ⟨ma_19, ka_19⟩⟩)
  have hfo_42 : f_41 a_2 = .inr (7, [.ref a_21, .int v_22, .ref a_23, .ref a_24, .ref a_25, .ref a_26, .int v_27, .ref a_28, .ref a_29, .ref a_30, .ref a_31, .ref a_32, .int v_33, .ref a_34, .ref a_35, .ref a_36]) := by rw [ef_41, up_ne (kd_ne ko0 ka_2 (by decide))]; exact hfo_20
  have hfr0 : ∀ b, kd b ≠ 3 → kd b ≠ 507 → f_41 b = f b := fun b q3 q507 => (congrFun ef_41 b).trans ((up_ne (fun e9 => q3 (by rw [e9]; exact ko0))).trans (hfr0 b q3 q507))
  have hrr3_0 : ∀ b, kd b = 3 → fldR (f_41 b) 0 = fldR (f b) 0 := fun b kb => ((congrArg (fun x => fldR x 0) (congrFun ef_41 b)).trans (fr_up (by rw [hfo_1]; rfl) b)).trans (hrr3_0 b kb)
  have hrr3_3 : ∀ b, kd b = 3 → fldR (f_41 b) 3 = fldR (f b) 3 := fun b kb => ((congrArg (fun x => fldR x 3) (congrFun ef_41 b)).trans (fr_up (by rw [hfo_1]; rfl) b)).trans (hrr3_3 b kb)
  have hfo_43 : f_41 o0 = .inr (3, [.ref a_2, .ref a_3, .ref a_4, .ref a_5, .ref a_6, .int x_39, .int v_8, .int v_9, .int v_10, .int v_11, .int v_12, .int v_13, .ref a_14, .ref a_15, .ref a_16, .int v_17, .ref a_18, .ref a_19]) := by rw [ef_41]; exact up_self
  refine lv_aload_n hx hb dX3_takeNumbered_29 rfl (lv_at hl 2 rfl) ?_
  refine tk_getP (D := (dC, dI)) (ci := 3) (v := .int x_39) (C := RX3) (T := TX3) (N := 18) hx hb hU inlX3 hown hK hP mo0 hfo_43 rfl 5 (by decide) (hU _ wd_726) (fun _ h9 => h9) rfl dX3_takeNumbered_30 ?_
  refine lv_iconst (v := 1) hx hb dX3_takeNumbered_33 (by decide) ?_
  refine lv_isub hx hb dX3_takeNumbered_34 ?_
  refine lv_topi (fun x_44 ex_44 => ?_)
  have hx_44 : x_44.toInt = x_39.toInt - 1 := by rw [ex_44, sb_I (by rw [ti_1]; omega) (by rw [ti_1]; omega), ti_1]
  have bx_44 : ((-1) ≤ x_44.toInt ∧ x_44.toInt ≤ 7) := by constructor <;> omega
  refine lv_istore (lv' := [(5, .int x_44), (4, .int x_37), (3, .int p2), (0, .ref o0), (1, .int p1), (2, .int p2)]) hx hb dX3_takeNumbered_35 hl (by decide) rfl (fun ls hl => ?_)
  have hloop_52 : ∀ (n : Nat), ∀ (y_53 : Int32), ((-1) ≤ y_53.toInt ∧ y_53.toInt ≤ 7) → ∀ (y_54 : Int32), (0 ≤ y_54.toInt ∧ y_54.toInt ≤ 2147483647) → ∀ (f_56 : Nat → va_E), GI (okc cI cL cZ cR cG cH L kd) kd L f_56 → ∀ (H : Heap) (locs : List Loc), va_P (dC, dI) vwCl (va_pl L f_56) H → va_S (fun q => q ∈ L) s.heap H locs → va_D (fun q => q ∈ L) (va_pl L f_56) → (∀ b, kd b ≠ 3 → kd b ≠ 507 → f_56 b = f b) → (∀ b, kd b = 3 → fldR (f_56 b) 0 = fldR (f b) 0) → (∀ b, kd b = 3 → fldR (f_56 b) 3 = fldR (f b) 3) → (f_56 a_2 = .inr (7, [.ref a_21, .int v_22, .ref a_23, .ref a_24, .ref a_25, .ref a_26, .int v_27, .ref a_28, .ref a_29, .ref a_30, .ref a_31, .ref a_32, .int v_33, .ref a_34, .ref a_35, .ref a_36])) → (f_56 o0 = .inr (3, [.ref a_2, .ref a_3, .ref a_4, .ref a_5, .ref a_6, .int x_39, .int v_8, .int v_9, .int v_10, .int v_11, .int v_12, .int v_13, .ref a_14, .ref a_15, .ref a_16, .int v_17, .ref a_18, .ref a_19])) → y_53.toInt - (-1) < (n : Int) → ∀ (ls : Array Slot), lv_has ls 6 [(5, .int y_53), (4, .int x_37), (3, .int y_54), (0, .ref o0), (1, .int p1), (2, .int p2)] → W p l e (headSpec (wU yX3_takeNumbered cX3_takeNumbered 6 none) { frames := 1, cells := 0, slots := 0, locals := 40 }).room s m [.ref o0, .int p1, .int p2].toArray below meth c H locs 0 0 (MQ below (va_Qv (fun (f9 : Nat → va_E) => GI (okc cI cL cZ cR cG cH L kd) kd L f9 ∧ (∀ b, kd b ≠ 3 → kd b ≠ 507 → f9 b = f b) ∧ (∀ b, kd b = 3 → fldR (f9 b) 0 = fldR (f b) 0) ∧ (∀ b, kd b = 3 → fldR (f9 b) 3 = fldR (f b) 3)) (qP (dC, dI) cI cL cZ cR cG cH L) (fun q => q ∈ L)) [.ref o0, .int p1, .int p2].toArray s 0 0 (fun q => q ∈ L)) (F0 m 37 ls []) := by
    intro n
    induction n with
    | zero => intro y_53 by_53 y_54 by_54 f_56 hG H locs hP hS hD hfr0 hrr3_0 hrr3_3 hfo_57 hfo_58 hmuhloop_52 ls hl; exfalso; omega
    | succ n ih_hloop_52 =>
      intro y_53 by_53 y_54 by_54 f_56 hG H locs hP hS hD hfr0 hrr3_0 hrr3_3 hfo_57 hfo_58 hmuhloop_52 ls hl
      refine lv_iload hx hb dX3_takeNumbered_37 (lv_at hl 0 rfl) ?_
      refine lv_if_lt (tgt := 66) hx hb dX3_takeNumbered_39 (by decide) (fun c_59 => ?_) (fun c_59 => ?_)
      · skip
        rw [Int32.lt_iff_toInt_lt, ti_0] at c_59
        exact W.vret hx hb hr (fun t ht hW => ⟨⟨f_56, rfl, ⟨hG, hfr0, hrr3_0, hrr3_3⟩, by rw [ht]; exact hP, va_K.moved hW.alike hK, pl_in hD⟩, hS.F ht⟩) hS.2.2 dX3_takeNumbered_66
      · skip
        rw [Int32.lt_iff_toInt_lt, ti_0] at c_59
        refine lv_aload_n hx hb dX3_takeNumbered_42 rfl (lv_at hl 3 rfl) ?_
        refine tk_getP (D := (dC, dI)) (ci := 3) (v := .ref a_6) (C := RX3) (T := TX3) (N := 18) hx hb hU inlX3 hown hK hP mo0 hfo_58 rfl 4 (by decide) (hU _ wd_61) (fun _ h9 => h9) rfl dX3_takeNumbered_43 ?_
        refine lv_iload hx hb dX3_takeNumbered_46 (lv_at hl 0 rfl) ?_
        refine lv_iconst (v := 1) hx hb dX3_takeNumbered_48 (by decide) ?_
        refine lv_iload_n hx hb dX3_takeNumbered_49 rfl (lv_at hl 2 rfl) ?_
        refine lv_iload hx hb dX3_takeNumbered_50 (lv_at hl 1 rfl) ?_
        refine lv_irem hx hb dX3_takeNumbered_52 (by rw [← Int32.toInt_inj, ti_0]; omega) ?_
        refine lv_topi (fun x_60 ex_60 => ?_)
        have bx_60 : (0 ≤ x_60.toInt ∧ x_60.toInt ≤ 7) := by rw [ex_60]; have h8 := rm_B (x := y_54) (y := x_37) (by omega) (by omega); constructor <;> omega
        refine lv_iadd hx hb dX3_takeNumbered_53 ?_
        refine lv_topi (fun x_61 ex_61 => ?_)
        have hx_61 : x_61.toInt = 1 + x_60.toInt := by rw [ex_61, ad_I (by rw [ti_1]; omega) (by rw [ti_1]; omega), ti_1]
        have bx_61 : (1 ≤ x_61.toInt ∧ x_61.toInt ≤ 8) := by constructor <;> omega
        obtain ⟨g_63, hfo_62, hbg_63⟩ := un_507 (hG _ ma_6) ka_6
        refine tk_istP hx hb hK hP hD hS 0 ma_6 hfo_62 rfl (vp_in_iff.mpr (by constructor <;> omega)) dX3_takeNumbered_54 (fun H locs hP hD hS => ?_)
        obtain ⟨f_65, ef_65⟩ : ∃ y : Nat → va_E, y = va_up f_56 a_6 (.inl (cI, 8, .inl (upd g_63 (Int32.toNatClampNeg y_53) x_61))) := ⟨_, rfl⟩
        have hP : va_P (dC, dI) vwCl (va_pl L f_65) H := by rw [ef_65]; exact hP
        have hD : va_D (fun q => q ∈ L) (va_pl L f_65) := by rw [ef_65]; exact hD
        have hG : GI (okc cI cL cZ cR cG cH L kd) kd L f_65 := by rw [ef_65]; exact hG.set a_6 (mk_507 ka_6 ⟨_, rfl, okI_up hbg_63 (by constructor <;> omega) _⟩)
        have hfo_66 : f_65 a_2 = .inr (7, [.ref a_21, .int v_22, .ref a_23, .ref a_24, .ref a_25, .ref a_26, .int v_27, .ref a_28, .ref a_29, .ref a_30, .ref a_31, .ref a_32, .int v_33, .ref a_34, .ref a_35, .ref a_36]) := by rw [ef_65, up_ne (kd_ne ka_6 ka_2 (by decide))]; exact hfo_57
        have hfo_67 : f_65 o0 = .inr (3, [.ref a_2, .ref a_3, .ref a_4, .ref a_5, .ref a_6, .int x_39, .int v_8, .int v_9, .int v_10, .int v_11, .int v_12, .int v_13, .ref a_14, .ref a_15, .ref a_16, .int v_17, .ref a_18, .ref a_19]) := by rw [ef_65, up_ne (kd_ne ka_6 ko0 (by decide))]; exact hfo_58
        have hfr0 : ∀ b, kd b ≠ 3 → kd b ≠ 507 → f_65 b = f b := fun b q3 q507 => (congrFun ef_65 b).trans ((up_ne (fun e9 => q507 (by rw [e9]; exact ka_6))).trans (hfr0 b q3 q507))
        have hrr3_0 : ∀ b, kd b = 3 → fldR (f_65 b) 0 = fldR (f b) 0 := fun b kb => (congrArg (fun x => fldR x 0) ((congrFun ef_65 b).trans (up_ne (kd_ne ka_6 kb (by decide))))).trans (hrr3_0 b kb)
        have hrr3_3 : ∀ b, kd b = 3 → fldR (f_65 b) 3 = fldR (f b) 3 := fun b kb => (congrArg (fun x => fldR x 3) ((congrFun ef_65 b).trans (up_ne (kd_ne ka_6 kb (by decide))))).trans (hrr3_3 b kb)
        have hfo_68 : f_65 a_6 = .inl (cI, 8, .inl (upd g_63 (Int32.toNatClampNeg y_53) x_61)) := by rw [ef_65]; exact up_self
        refine lv_iload_n hx hb dX3_takeNumbered_55 rfl (lv_at hl 2 rfl) ?_
        refine lv_iload hx hb dX3_takeNumbered_56 (lv_at hl 1 rfl) ?_
        refine lv_idiv hx hb dX3_takeNumbered_58 (by rw [← Int32.toInt_inj, ti_0]; omega) ?_
        refine lv_topi (fun x_69 ex_69 => ?_)
        have bx_69 : (0 ≤ x_69.toInt ∧ x_69.toInt ≤ 2147483647) := by rw [ex_69]; have h8 := dv_B (x := y_54) (y := x_37) (by omega) (by omega); constructor <;> omega
        refine lv_istore_n (lv' := [(3, .int x_69), (5, .int y_53), (4, .int x_37), (0, .ref o0), (1, .int p1), (2, .int p2)]) hx hb dX3_takeNumbered_59 rfl hl (by decide) rfl (fun ls hl => ?_)
        obtain ⟨x_70, ex_70⟩ : ∃ y : Int32, y_53 + (-1) = y := ⟨_, rfl⟩
        have hx_70 : x_70.toInt = y_53.toInt + (-1) := by rw [← ex_70, ad_I (by rw [ti_m1]; omega) (by rw [ti_m1]; omega), ti_m1]
        have bx_70 : ((-1) ≤ x_70.toInt ∧ x_70.toInt ≤ 6) := by constructor <;> omega
        refine lv_iinc (v := x_70) (lv' := [(5, .int x_70), (3, .int x_69), (4, .int x_37), (0, .ref o0), (1, .int p1), (2, .int p2)]) hx hb dX3_takeNumbered_60 hl (k := 1) rfl ex_70 (by decide) rfl (fun ls hl => ?_)
        refine lv_goto (tgt := 37) hx hb dX3_takeNumbered_63 (by decide) ?_
        exact ih_hloop_52 x_70 (by constructor <;> omega) x_69 (by constructor <;> omega) f_65 hG _ _ hP hS hD hfr0 hrr3_0 hrr3_3 hfo_66 hfo_67 (by omega) ls (lv_sub hl [0, 2, 1, 3, 4, 5] rfl)
  exact hloop_52 9 x_44 (by constructor <;> omega) p2 (by constructor <;> omega) f_41 hG _ _ hP hS hD hfr0 hrr3_0 hrr3_3 hfo_42 hfo_43 (by omega) ls hl
