set_option maxHeartbeats 8000000 in
set_option maxRecDepth 100000 in
theorem s_X12_numberOf_k12 (l : Launch) (D : va_G) (cI cL cZ cR cG cH : ClassId) (Z : zT) (kd : Nat → Nat) (L : List Nat) (f : Nat → va_E) (hG : GI (okc cI cL cZ cR cG cH L kd) kd L f) (o0 : Nat) (mo0 : o0 ∈ L) (ko0 : kd o0 = 12) (p1 : Int32) (bp1 : (0 ≤ p1.toInt ∧ p1.toInt ≤ 4)) : mPI l D cI cL cZ cR cG cH Z yX12_numberOf cX12_numberOf 4 (some .int) 0 0 [.ref o0, .int p1] L f (fun (r : Int32) (f9 : Nat → va_E) => f = f9 ∧ (0 ≤ r.toInt ∧ r.toInt ≤ 6560)) := by
  obtain ⟨dC, dI⟩ := D
  refine Met.ofW (cc := cX12_numberOf) (maxL := 4) (ret := (some .int)) (by decide) rfl ?_
  intro p e s m args below meth c s₁ B hml hv
  obtain ⟨rfl, hP, hK, hD0, hN, hZ⟩ := hv
  have hx := B.exec
  have hb := B.bytes
  have hr := B.returns
  have hU : ∀ w ∈ wsU, w.before _ s = true := fun w h => atoms_spec (ws := wU yX12_numberOf cX12_numberOf 4 (some .int)) B.pre w (List.mem_cons_of_mem _ h)
  have hown : s.vm.findClass RX12 = some m.cls := findClass_of_methodNamed B.named
  have hlocks := B.notSynchronized
  have hD := pl_in hD0
  have hS : va_S (fun q => q ∈ L) s.heap s.heap [] := va_S.rf
  have hl := lv_entry ([.ref o0, .int p1]) (n := 4) (Nat.le_of_ble_eq_true rfl)
  rw [lg_entry_eq]
  generalize (lg_sl ([.ref o0, .int p1]) ++ List.replicate (4 - (lg_sl ([.ref o0, .int p1])).length) Slot.unset).toArray = ls at hl ⊢
  have hl : lv_has ls 4 [(0, .ref o0), (1, .int p1)] := hl
  refine lv_iconst (v := 0) hx hb dX12_numberOf_0 (by decide) ?_
  refine lv_istore_n (lv' := [(2, .int 0), (0, .ref o0), (1, .int p1)]) hx hb dX12_numberOf_1 rfl hl (by decide) rfl (fun ls hl => ?_)
  refine lv_iconst (v := 0) hx hb dX12_numberOf_2 (by decide) ?_
  refine lv_istore_n (lv' := [(3, .int 0), (2, .int 0), (0, .ref o0), (1, .int p1)]) hx hb dX12_numberOf_3 rfl hl (by decide) rfl (fun ls hl => ?_)
  have hloop_4 : ∀ (n : Nat), ∀ (y_5 : Int32), (0 ≤ y_5.toInt ∧ y_5.toInt ≤ 4) → ∀ (y_6 : Int32), (0 ≤ y_6.toInt ∧ y_6.toInt ≤ 6560) → ((y_5.toInt = 0 ∧ y_6.toInt = 0) ∨ (y_5.toInt = 1 ∧ y_6.toInt ≤ 8) ∨ (y_5.toInt = 2 ∧ y_6.toInt ≤ 80) ∨ (y_5.toInt = 3 ∧ y_6.toInt ≤ 728) ∨ (y_5.toInt = 4 ∧ y_6.toInt ≤ 6560)) → 4 - y_5.toInt < (n : Int) → ∀ (ls : Array Slot), lv_has ls 4 [(3, .int y_5), (2, .int y_6), (0, .ref o0), (1, .int p1)] → W p l e (headSpec (wU yX12_numberOf cX12_numberOf 4 (some .int)) { frames := 0, cells := 0, slots := 0, locals := 0 }).room s m [.ref o0, .int p1].toArray below meth c s.heap [] 0 0 (MQ below (va_Qi (fun (r : Int32) (f9 : Nat → va_E) => f = f9 ∧ (0 ≤ r.toInt ∧ r.toInt ≤ 6560)) (qP (dC, dI) cI cL cZ cR cG cH L) (fun q => q ∈ L)) [.ref o0, .int p1].toArray s 0 0 (fun q => q ∈ L)) (F0 m 4 ls []) := by
    intro n
    induction n with
    | zero => intro y_5 by_5 y_6 by_6 hrelhloop_4_0 hmuhloop_4 ls hl; exfalso; omega
    | succ n ih_hloop_4 =>
      intro y_5 by_5 y_6 by_6 hrelhloop_4_0 hmuhloop_4 ls hl
      refine lv_iload_n hx hb dX12_numberOf_4 rfl (lv_at hl 0 rfl) ?_
      refine lv_iload_n hx hb dX12_numberOf_5 rfl (lv_at hl 3 rfl) ?_
      refine lv_icmp_ge (tgt := 27) hx hb dX12_numberOf_6 (by decide) (fun c_7 => ?_) (fun c_7 => ?_)
      · skip
        rw [Int32.le_iff_toInt_le] at c_7
        refine lv_iload_n hx hb dX12_numberOf_27 rfl (lv_at hl 1 rfl) ?_
        exact W.iret (v := y_6) hx hb hr (fun t ht hW => ⟨⟨y_6, f, rfl, ⟨rfl, (by constructor <;> omega)⟩, by rw [ht]; exact hP, va_K.moved hW.alike hK, pl_in hD⟩, hS.F ht⟩) hS.2.2 dX12_numberOf_28
      · skip
        rw [Int32.le_iff_toInt_le] at c_7
        refine lv_bipush (v := 9) hx hb dX12_numberOf_9 (by decide) ?_
        refine lv_iload_n hx hb dX12_numberOf_11 rfl (lv_at hl 1 rfl) ?_
        refine lv_imul hx hb dX12_numberOf_12 ?_
        refine lv_topi (fun x_8 ex_8 => ?_)
        have hx_8 : x_8.toInt = 9 * y_6.toInt := by rw [ex_8, ml_I (by rw [ti_9]; omega) (by rw [ti_9]; omega), ti_9]
        have bx_8 : (0 ≤ x_8.toInt ∧ x_8.toInt ≤ 59040) := by constructor <;> omega
        refine lv_aload_n hx hb dX12_numberOf_13 rfl (lv_at hl 2 rfl) ?_
        obtain ⟨a_10, a_11, a_12, v_13, a_14, v_15, v_16, v_17, v_18, v_19, v_20, v_21, v_22, v_23, v_24, a_25, a_26, a_27, a_28, a_29, a_30, a_31, a_32, v_33, v_34, v_35, v_36, v_37, a_38, v_39, a_40, a_41, v_42, v_43, a_44, v_45, a_46, a_47, v_48, v_49, a_50, a_51, a_52, v_53, a_54, a_55, a_56, a_57, a_58, a_59, a_60, a_61, a_62, v_63, v_64, a_65, hfo_9, ⟨ma_10, ka_10⟩, ⟨ma_11, ka_11⟩, ⟨ma_12, ka_12⟩, bv_13, ⟨ma_14, ka_14⟩, bv_15, bv_16, bv_21, bv_22, bv_23, ⟨ma_25, ka_25⟩, ⟨ma_26, ka_26⟩, ⟨ma_27, ka_27⟩, ⟨ma_28, ka_28⟩, ⟨ma_29, ka_29⟩, ⟨ma_30, ka_30⟩, ⟨ma_31, ka_31⟩, ⟨ma_32, ka_32⟩, bv_33, bv_35, bv_37, ⟨ma_38, ka_38⟩, bv_39, ⟨ma_40, ka_40⟩, ⟨ma_41, ka_41⟩, bv_42, ⟨ma_44, ka_44⟩, bv_45, ⟨ma_46, ka_46⟩, ⟨ma_47, ka_47⟩, bv_48, ⟨ma_50, ka_50⟩, ⟨ma_51, ka_51⟩, ⟨ma_52, ka_52⟩, bv_53, ⟨ma_54, ka_54⟩, ⟨ma_55, ka_55⟩, ⟨ma_56, ka_56⟩, ⟨ma_57, ka_57⟩, ⟨ma_58, ka_58⟩, ⟨ma_59, ka_59⟩, ⟨ma_60, ka_60⟩, ⟨ma_61, ka_61⟩, ⟨ma_62, ka_62⟩, bv_63, ⟨ma_65, ka_65⟩⟩ := un_12 (hG _ mo0) ko0
        have bv_17 : ((-2147483648) ≤ v_17.toInt ∧ v_17.toInt ≤ 2147483647) := ⟨i32_lo _, i32_hi _⟩
        have bv_18 : ((-2147483648) ≤ v_18.toInt ∧ v_18.toInt ≤ 2147483647) := ⟨i32_lo _, i32_hi _⟩
        have bv_19 : ((-2147483648) ≤ v_19.toInt ∧ v_19.toInt ≤ 2147483647) := ⟨i32_lo _, i32_hi _⟩
        have bv_20 : ((-2147483648) ≤ v_20.toInt ∧ v_20.toInt ≤ 2147483647) := ⟨i32_lo _, i32_hi _⟩
        have bv_24 : ((-2147483648) ≤ v_24.toInt ∧ v_24.toInt ≤ 2147483647) := ⟨i32_lo _, i32_hi _⟩
        have bv_34 : ((-2147483648) ≤ v_34.toInt ∧ v_34.toInt ≤ 2147483647) := ⟨i32_lo _, i32_hi _⟩
        have bv_36 : ((-2147483648) ≤ v_36.toInt ∧ v_36.toInt ≤ 2147483647) := ⟨i32_lo _, i32_hi _⟩
        have bv_43 : ((-2147483648) ≤ v_43.toInt ∧ v_43.toInt ≤ 2147483647) := ⟨i32_lo _, i32_hi _⟩
        have bv_49 : ((-2147483648) ≤ v_49.toInt ∧ v_49.toInt ≤ 2147483647) := ⟨i32_lo _, i32_hi _⟩
        have bv_64 : ((-2147483648) ≤ v_64.toInt ∧ v_64.toInt ≤ 2147483647) := ⟨i32_lo _, i32_hi _⟩
        refine tk_getP (D := (dC, dI)) (ci := 12) (v := .ref a_32) (C := RX12) (T := TX12) (N := 56) hx hb hU inlX12 hown hK hP mo0 hfo_9 rfl 22 (by decide) (hU _ wd_182) (fun _ h9 => h9) rfl dX12_numberOf_14 ?_
        refine lv_iload_n hx hb dX12_numberOf_17 rfl (lv_at hl 0 rfl) ?_
        obtain ⟨g_67, hfo_66, hbg_67⟩ := un_590 (hG _ ma_32) ka_32
        refine tk_ildP hx hb hK hP 0 ma_32 hfo_66 rfl (vp_in_iff.mpr (by constructor <;> omega)) dX12_numberOf_18 ?_
        refine lv_topi (fun x_68 ex_68 => ?_)
        have bx_68 : (0 ≤ x_68.toInt ∧ x_68.toInt ≤ 8) := by rw [ex_68]; exact hbg_67 _
        refine lv_iadd hx hb dX12_numberOf_19 ?_
        refine lv_topi (fun x_69 ex_69 => ?_)
        have hx_69 : x_69.toInt = x_8.toInt + x_68.toInt := by rw [ex_69, ad_I (by omega) (by omega)]
        have bx_69 : (0 ≤ x_69.toInt ∧ x_69.toInt ≤ 59048) := by constructor <;> omega
        have hclc_70 : (0 ≤ x_69.toInt ∧ x_69.toInt ≤ 6560) := by constructor <;> omega
        refine lv_istore_n (lv' := [(2, .int x_69), (3, .int y_5), (0, .ref o0), (1, .int p1)]) hx hb dX12_numberOf_20 rfl hl (by decide) rfl (fun ls hl => ?_)
        obtain ⟨x_71, ex_71⟩ : ∃ y : Int32, y_5 + 1 = y := ⟨_, rfl⟩
        have hx_71 : x_71.toInt = y_5.toInt + 1 := by rw [← ex_71, ad_I (by rw [ti_1]; omega) (by rw [ti_1]; omega), ti_1]
        have bx_71 : (1 ≤ x_71.toInt ∧ x_71.toInt ≤ 4) := by constructor <;> omega
        refine lv_iinc (v := x_71) (lv' := [(3, .int x_71), (2, .int x_69), (0, .ref o0), (1, .int p1)]) hx hb dX12_numberOf_21 hl (k := 1) rfl ex_71 (by decide) rfl (fun ls hl => ?_)
        refine lv_goto (tgt := 4) hx hb dX12_numberOf_24 (by decide) ?_
        exact ih_hloop_4 x_71 (by constructor <;> omega) x_69 (by constructor <;> omega) (by omega) (by omega) ls (lv_sub hl [0, 1, 2, 3] rfl)
  exact hloop_4 5 0 (by decide) 0 (by decide) (by (try rw [ti_0]) <;> omega) (by (try rw [ti_0]) <;> omega) ls hl
set_option maxHeartbeats 8000000 in
set_option maxRecDepth 100000 in
theorem s_X12_padded_k12 (l : Launch) (D : va_G) (cI cL cZ cR cG cH : ClassId) (Z : zT) (kd : Nat → Nat) (L : List Nat) (f : Nat → va_E) (hG : GI (okc cI cL cZ cR cG cH L kd) kd L f) (o0 : Nat) (mo0 : o0 ∈ L) (ko0 : kd o0 = 12) (p1 : Int32) (bp1 : (0 ≤ p1.toInt ∧ p1.toInt ≤ 13)) : mPL l D cI cL cZ cR cG cH Z yX12_padded cX12_padded 5 (some .long) 0 0 [.ref o0, .int p1] L f (fun (r : Int64) (f9 : Nat → va_E) => f = f9) := by
  obtain ⟨dC, dI⟩ := D
  refine Met.ofW (cc := cX12_padded) (maxL := 5) (ret := (some .long)) (by decide) rfl ?_
  intro p e s m args below meth c s₁ B hml hv
  obtain ⟨rfl, hP, hK, hD0, hN, hZ⟩ := hv
  have hx := B.exec
  have hb := B.bytes
  have hr := B.returns
  have hU : ∀ w ∈ wsU, w.before _ s = true := fun w h => atoms_spec (ws := wU yX12_padded cX12_padded 5 (some .long)) B.pre w (List.mem_cons_of_mem _ h)
  have hown : s.vm.findClass RX12 = some m.cls := findClass_of_methodNamed B.named
  have hlocks := B.notSynchronized
  have hD := pl_in hD0
  have hS : va_S (fun q => q ∈ L) s.heap s.heap [] := va_S.rf
  have hl := lv_entry ([.ref o0, .int p1]) (n := 5) (Nat.le_of_ble_eq_true rfl)
  rw [lg_entry_eq]
  generalize (lg_sl ([.ref o0, .int p1]) ++ List.replicate (5 - (lg_sl ([.ref o0, .int p1])).length) Slot.unset).toArray = ls at hl ⊢
  have hl : lv_has ls 5 [(0, .ref o0), (1, .int p1)] := hl
  refine lv_lconst (v := 0) hx hb dX12_padded_0 (by decide) ?_
  refine lv_lstore_n (lv' := [(2, .long 0), (0, .ref o0), (1, .int p1)]) hx hb dX12_padded_1 rfl hl (by decide) rfl (fun ls hl => ?_)
  refine lv_iconst (v := 0) hx hb dX12_padded_2 (by decide) ?_
  refine lv_istore (lv' := [(4, .int 0), (2, .long 0), (0, .ref o0), (1, .int p1)]) hx hb dX12_padded_3 hl (by decide) rfl (fun ls hl => ?_)
  have hloop_10 : ∀ (n : Nat), ∀ (y_11 : Int32), (0 ≤ y_11.toInt ∧ y_11.toInt ≤ 10) → ∀ (y_12 : Int64), 10 - y_11.toInt < (n : Int) → ∀ (ls : Array Slot), lv_has ls 5 [(4, .int y_11), (2, .long y_12), (0, .ref o0), (1, .int p1)] → W p l e (headSpec (wU yX12_padded cX12_padded 5 (some .long)) { frames := 0, cells := 0, slots := 0, locals := 0 }).room s m [.ref o0, .int p1].toArray below meth c s.heap [] 0 0 (MQ below (va_Ql (fun (r : Int64) (f9 : Nat → va_E) => f = f9) (qP (dC, dI) cI cL cZ cR cG cH L) (fun q => q ∈ L)) [.ref o0, .int p1].toArray s 0 0 (fun q => q ∈ L)) (F0 m 5 ls []) := by
    intro n
    induction n with
    | zero => intro y_11 by_11 y_12 hmuhloop_10 ls hl; exfalso; omega
    | succ n ih_hloop_10 =>
      intro y_11 by_11 y_12 hmuhloop_10 ls hl
      refine lv_iload hx hb dX12_padded_5 (lv_at hl 0 rfl) ?_
      refine lv_bipush (v := 10) hx hb dX12_padded_7 (by decide) ?_
      refine lv_icmp_ge (tgt := 43) hx hb dX12_padded_9 (by decide) (fun c_13 => ?_) (fun c_13 => ?_)
      · skip
        rw [Int32.le_iff_toInt_le, ti_10] at c_13
        refine lv_lload_n hx hb dX12_padded_43 rfl (lv_at hl 1 rfl) ?_
        exact W.lret (v := y_12) hx hb hr (fun t ht hW => ⟨⟨y_12, f, rfl, rfl, by rw [ht]; exact hP, va_K.moved hW.alike hK, pl_in hD⟩, hS.F ht⟩) hS.2.2 dX12_padded_44
      · skip
        rw [Int32.le_iff_toInt_le, ti_10] at c_13
        refine lv_ldc2 (v := 9) hx hb hown (hU _ wd_915) dX12_padded_12 ?_
        refine lv_lload_n hx hb dX12_padded_15 rfl (lv_at hl 1 rfl) ?_
        refine lv_lmul hx hb dX12_padded_16 ?_
        refine lv_topl (fun j_14 ej_14 => ?_)
        refine lv_iload hx hb dX12_padded_17 (lv_at hl 0 rfl) ?_
        refine lv_iload_n hx hb dX12_padded_19 rfl (lv_at hl 3 rfl) ?_
        have hcut_16 : ∀ (y_15 : Int32), (0 ≤ y_15.toInt ∧ y_15.toInt ≤ 8) → ∀ (ls : Array Slot), lv_has ls 5 [(4, .int y_11), (2, .long y_12), (0, .ref o0), (1, .int p1)] → W p l e (headSpec (wU yX12_padded cX12_padded 5 (some .long)) { frames := 0, cells := 0, slots := 0, locals := 0 }).room s m [.ref o0, .int p1].toArray below meth c s.heap [] 0 0 (MQ below (va_Ql (fun (r : Int64) (f9 : Nat → va_E) => f = f9) (qP (dC, dI) cI cL cZ cR cG cH L) (fun q => q ∈ L)) [.ref o0, .int p1].toArray s 0 0 (fun q => q ∈ L)) (F0 m 34 ls [.int y_15, .long j_14]) := by
          intro y_15 by_15 ls hl
          refine lv_i2l hx hb dX12_padded_34 rfl ?_
          refine lv_topl (fun j_17 ej_17 => ?_)
          refine lv_ladd hx hb dX12_padded_35 ?_
          refine lv_topl (fun j_18 ej_18 => ?_)
          refine lv_lstore_n (lv' := [(2, .long j_18), (4, .int y_11), (0, .ref o0), (1, .int p1)]) hx hb dX12_padded_36 rfl hl (by decide) rfl (fun ls hl => ?_)
          obtain ⟨x_19, ex_19⟩ : ∃ y : Int32, y_11 + 1 = y := ⟨_, rfl⟩
          have hx_19 : x_19.toInt = y_11.toInt + 1 := by rw [← ex_19, ad_I (by rw [ti_1]; omega) (by rw [ti_1]; omega), ti_1]
          have bx_19 : (1 ≤ x_19.toInt ∧ x_19.toInt ≤ 10) := by constructor <;> omega
          refine lv_iinc (v := x_19) (lv' := [(4, .int x_19), (2, .long j_18), (0, .ref o0), (1, .int p1)]) hx hb dX12_padded_37 hl (k := 1) rfl ex_19 (by decide) rfl (fun ls hl => ?_)
          refine lv_goto (tgt := 5) hx hb dX12_padded_40 (by decide) ?_
          exact ih_hloop_10 x_19 (by constructor <;> omega) (j_18) (by omega) ls (lv_sub hl [0, 1, 2, 3] rfl)
        refine lv_icmp_ge (tgt := 33) hx hb dX12_padded_20 (by decide) (fun c_20 => ?_) (fun c_20 => ?_)
        · skip
          rw [Int32.le_iff_toInt_le] at c_20
          refine lv_iconst (v := 0) hx hb dX12_padded_33 (by decide) ?_
          exact hcut_16 0 (by decide) ls (lv_sub hl [0, 1, 2, 3] rfl)
        · skip
          rw [Int32.le_iff_toInt_le] at c_20
          refine lv_aload_n hx hb dX12_padded_23 rfl (lv_at hl 2 rfl) ?_
          obtain ⟨a_22, a_23, a_24, v_25, a_26, v_27, v_28, v_29, v_30, v_31, v_32, v_33, v_34, v_35, v_36, a_37, a_38, a_39, a_40, a_41, a_42, a_43, a_44, v_45, v_46, v_47, v_48, v_49, a_50, v_51, a_52, a_53, v_54, v_55, a_56, v_57, a_58, a_59, v_60, v_61, a_62, a_63, a_64, v_65, a_66, a_67, a_68, a_69, a_70, a_71, a_72, a_73, a_74, v_75, v_76, a_77, hfo_21, ⟨ma_22, ka_22⟩, ⟨ma_23, ka_23⟩, ⟨ma_24, ka_24⟩, bv_25, ⟨ma_26, ka_26⟩, bv_27, bv_28, bv_33, bv_34, bv_35, ⟨ma_37, ka_37⟩, ⟨ma_38, ka_38⟩, ⟨ma_39, ka_39⟩, ⟨ma_40, ka_40⟩, ⟨ma_41, ka_41⟩, ⟨ma_42, ka_42⟩, ⟨ma_43, ka_43⟩, ⟨ma_44, ka_44⟩, bv_45, bv_47, bv_49, ⟨ma_50, ka_50⟩, bv_51, ⟨ma_52, ka_52⟩, ⟨ma_53, ka_53⟩, bv_54, ⟨ma_56, ka_56⟩, bv_57, ⟨ma_58, ka_58⟩, ⟨ma_59, ka_59⟩, bv_60, ⟨ma_62, ka_62⟩, ⟨ma_63, ka_63⟩, ⟨ma_64, ka_64⟩, bv_65, ⟨ma_66, ka_66⟩, ⟨ma_67, ka_67⟩, ⟨ma_68, ka_68⟩, ⟨ma_69, ka_69⟩, ⟨ma_70, ka_70⟩, ⟨ma_71, ka_71⟩, ⟨ma_72, ka_72⟩, ⟨ma_73, ka_73⟩, ⟨ma_74, ka_74⟩, bv_75, ⟨ma_77, ka_77⟩⟩ := un_12 (hG _ mo0) ko0
          have bv_29 : ((-2147483648) ≤ v_29.toInt ∧ v_29.toInt ≤ 2147483647) := ⟨i32_lo _, i32_hi _⟩
          have bv_30 : ((-2147483648) ≤ v_30.toInt ∧ v_30.toInt ≤ 2147483647) := ⟨i32_lo _, i32_hi _⟩
          have bv_31 : ((-2147483648) ≤ v_31.toInt ∧ v_31.toInt ≤ 2147483647) := ⟨i32_lo _, i32_hi _⟩
          have bv_32 : ((-2147483648) ≤ v_32.toInt ∧ v_32.toInt ≤ 2147483647) := ⟨i32_lo _, i32_hi _⟩
          have bv_36 : ((-2147483648) ≤ v_36.toInt ∧ v_36.toInt ≤ 2147483647) := ⟨i32_lo _, i32_hi _⟩
          have bv_46 : ((-2147483648) ≤ v_46.toInt ∧ v_46.toInt ≤ 2147483647) := ⟨i32_lo _, i32_hi _⟩
          have bv_48 : ((-2147483648) ≤ v_48.toInt ∧ v_48.toInt ≤ 2147483647) := ⟨i32_lo _, i32_hi _⟩
          have bv_55 : ((-2147483648) ≤ v_55.toInt ∧ v_55.toInt ≤ 2147483647) := ⟨i32_lo _, i32_hi _⟩
          have bv_61 : ((-2147483648) ≤ v_61.toInt ∧ v_61.toInt ≤ 2147483647) := ⟨i32_lo _, i32_hi _⟩
          have bv_76 : ((-2147483648) ≤ v_76.toInt ∧ v_76.toInt ≤ 2147483647) := ⟨i32_lo _, i32_hi _⟩
          refine tk_getP (D := (dC, dI)) (ci := 12) (v := .ref a_44) (C := RX12) (T := TX12) (N := 56) hx hb hU inlX12 hown hK hP mo0 hfo_21 rfl 22 (by decide) (hU _ wd_182) (fun _ h9 => h9) rfl dX12_padded_24 ?_
          refine lv_iload hx hb dX12_padded_27 (lv_at hl 0 rfl) ?_
          obtain ⟨g_79, hfo_78, hbg_79⟩ := un_590 (hG _ ma_44) ka_44
          refine tk_ildP hx hb hK hP 0 ma_44 hfo_78 rfl (vp_in_iff.mpr (by constructor <;> omega)) dX12_padded_29 ?_
          refine lv_topi (fun x_80 ex_80 => ?_)
          have bx_80 : (0 ≤ x_80.toInt ∧ x_80.toInt ≤ 8) := by rw [ex_80]; exact hbg_79 _
          refine lv_goto (tgt := 34) hx hb dX12_padded_30 (by decide) ?_
          exact hcut_16 x_80 (by constructor <;> omega) ls (lv_sub hl [0, 1, 2, 3] rfl)
  exact hloop_10 11 0 (by decide) (0) (by (try rw [ti_0]) <;> omega) ls hl
set_option maxHeartbeats 8000000 in
set_option maxRecDepth 100000 in
theorem s_X12_finds_k12 (l : Launch) (D : va_G) (cI cL cZ cR cG cH : ClassId) (Z : zT) (kd : Nat → Nat) (L : List Nat) (f : Nat → va_E) (hG : GI (okc cI cL cZ cR cG cH L kd) kd L f) (o0 : Nat) (mo0 : o0 ∈ L) (ko0 : kd o0 = 12) (p1 : Int32) (bp1 : (0 ≤ p1.toInt ∧ p1.toInt ≤ 13)) (hpreo0 : ∀ (w29 : Int32), fldI (f o0) 29 = some w29 → w29.toInt ≤ 200) : mPV l D cI cL cZ cR cG cH Z yX12_finds cX12_finds 6 none 1 24 [.ref o0, .int p1] L f (fun (f9 : Nat → va_E) => GI (okc cI cL cZ cR cG cH L kd) kd L f9 ∧ (∀ b, kd b ≠ 12 → kd b ≠ 591 → f9 b = f b) ∧ (∀ b, kd b = 12 → ∀ j, fldR (f9 b) j = fldR (f b) j) ∧ (∀ b, kd b = 12 → ∀ j, j ≠ 27 → j ≠ 29 → fldI (f9 b) j = fldI (f b) j) ∧ (∀ (w27 z27 : Int32) (w29 z29 : Int32), fldI (f o0) 27 = some w27 → fldI (f o0) 29 = some w29 → fldI (f9 o0) 27 = some z27 → fldI (f9 o0) 29 = some z29 → z27.toInt = 1 ∨ z29.toInt ≤ 200)) := by
  obtain ⟨dC, dI⟩ := D
  refine Met.ofW (cc := cX12_finds) (maxL := 6) (ret := none) (by decide) rfl ?_
  intro p e s m args below meth c s₁ B hml hv
  obtain ⟨rfl, hP, hK, hD0, hN, hZ⟩ := hv
  have hx := B.exec
  have hb := B.bytes
  have hr := B.returns
  have hU : ∀ w ∈ wsU, w.before _ s = true := fun w h => atoms_spec (ws := wU yX12_finds cX12_finds 6 none) B.pre w (List.mem_cons_of_mem _ h)
  have hown : s.vm.findClass RX12 = some m.cls := findClass_of_methodNamed B.named
  have hlocks := B.notSynchronized
  have hD := pl_in hD0
  have hS : va_S (fun q => q ∈ L) s.heap s.heap [] := va_S.rf
  have hl := lv_entry ([.ref o0, .int p1]) (n := 6) (Nat.le_of_ble_eq_true rfl)
  rw [lg_entry_eq]
  generalize (lg_sl ([.ref o0, .int p1]) ++ List.replicate (6 - (lg_sl ([.ref o0, .int p1])).length) Slot.unset).toArray = ls at hl ⊢
  have hl : lv_has ls 6 [(0, .ref o0), (1, .int p1)] := hl
  have hfr0 : ∀ b, kd b ≠ 12 → kd b ≠ 591 → f b = f b := fun _ _ _ => rfl
  have hrA12 : ∀ b, kd b = 12 → ∀ j, fldR (f b) j = fldR (f b) j := fun _ _ _ => rfl
  have hfA12 : ∀ b, kd b = 12 → ∀ j, j ≠ 27 → j ≠ 29 → fldI (f b) j = fldI (f b) j := fun _ _ _ _ _ => rfl
  obtain ⟨a_2, a_3, a_4, v_5, a_6, v_7, v_8, v_9, v_10, v_11, v_12, v_13, v_14, v_15, v_16, a_17, a_18, a_19, a_20, a_21, a_22, a_23, a_24, v_25, v_26, v_27, v_28, v_29, a_30, v_31, a_32, a_33, v_34, v_35, a_36, v_37, a_38, a_39, v_40, v_41, a_42, a_43, a_44, v_45, a_46, a_47, a_48, a_49, a_50, a_51, a_52, a_53, a_54, v_55, v_56, a_57, hfo_1, ⟨ma_2, ka_2⟩, ⟨ma_3, ka_3⟩, ⟨ma_4, ka_4⟩, bv_5, ⟨ma_6, ka_6⟩, bv_7, bv_8, bv_13, bv_14, bv_15, ⟨ma_17, ka_17⟩, ⟨ma_18, ka_18⟩, ⟨ma_19, ka_19⟩, ⟨ma_20, ka_20⟩, ⟨ma_21, ka_21⟩, ⟨ma_22, ka_22⟩, ⟨ma_23, ka_23⟩, ⟨ma_24, ka_24⟩, bv_25, bv_27, bv_29, ⟨ma_30, ka_30⟩, bv_31, ⟨ma_32, ka_32⟩, ⟨ma_33, ka_33⟩, bv_34, ⟨ma_36, ka_36⟩, bv_37, ⟨ma_38, ka_38⟩, ⟨ma_39, ka_39⟩, bv_40, ⟨ma_42, ka_42⟩, ⟨ma_43, ka_43⟩, ⟨ma_44, ka_44⟩, bv_45, ⟨ma_46, ka_46⟩, ⟨ma_47, ka_47⟩, ⟨ma_48, ka_48⟩, ⟨ma_49, ka_49⟩, ⟨ma_50, ka_50⟩, ⟨ma_51, ka_51⟩, ⟨ma_52, ka_52⟩, ⟨ma_53, ka_53⟩, ⟨ma_54, ka_54⟩, bv_55, ⟨ma_57, ka_57⟩⟩ := un_12 (hG _ mo0) ko0
  have bv_9 : ((-2147483648) ≤ v_9.toInt ∧ v_9.toInt ≤ 2147483647) := ⟨i32_lo _, i32_hi _⟩
  have bv_10 : ((-2147483648) ≤ v_10.toInt ∧ v_10.toInt ≤ 2147483647) := ⟨i32_lo _, i32_hi _⟩
  have bv_11 : ((-2147483648) ≤ v_11.toInt ∧ v_11.toInt ≤ 2147483647) := ⟨i32_lo _, i32_hi _⟩
  have bv_12 : ((-2147483648) ≤ v_12.toInt ∧ v_12.toInt ≤ 2147483647) := ⟨i32_lo _, i32_hi _⟩
  have bv_16 : ((-2147483648) ≤ v_16.toInt ∧ v_16.toInt ≤ 2147483647) := ⟨i32_lo _, i32_hi _⟩
  have bv_26 : ((-2147483648) ≤ v_26.toInt ∧ v_26.toInt ≤ 2147483647) := ⟨i32_lo _, i32_hi _⟩
  have bv_28 : ((-2147483648) ≤ v_28.toInt ∧ v_28.toInt ≤ 2147483647) := ⟨i32_lo _, i32_hi _⟩
  have bv_35 : ((-2147483648) ≤ v_35.toInt ∧ v_35.toInt ≤ 2147483647) := ⟨i32_lo _, i32_hi _⟩
  have bv_41 : ((-2147483648) ≤ v_41.toInt ∧ v_41.toInt ≤ 2147483647) := ⟨i32_lo _, i32_hi _⟩
  have bv_56 : ((-2147483648) ≤ v_56.toInt ∧ v_56.toInt ≤ 2147483647) := ⟨i32_lo _, i32_hi _⟩
  have hpo0 := hpreo0 v_31 (by rw [hfo_1]; rfl)
  refine lv_aload_n hx hb dX12_finds_0 rfl (lv_at hl 0 rfl) ?_
  refine lv_iload_n hx hb dX12_finds_1 rfl (lv_at hl 1 rfl) ?_
  refine tk_VlP (As := [.int p1]) (rest := []) (n := 1) hx hb hml hown hU hN hZ (s_X12_padded_k12 l (dC, dI) cI cL cZ cR cG cH Z kd L f hG o0 mo0 ko0 p1 (by constructor <;> omega)) wd_911 wd_912 wd_913 wd_5 wd_914 (by decide +kernel) ⟨Nat.le_of_ble_eq_true rfl, Nat.le_of_ble_eq_true rfl⟩ hK hP hD hS mo0 hfo_1 12 rfl rfl rfl hl.1 rfl (Nat.le_of_ble_eq_true rfl) dX12_finds_2 ⟨Nat.le_of_ble_eq_true rfl, Nat.le_of_ble_eq_true rfl⟩ (fun x_58 f_59 H locs hw hP hD hS => ?_)
  obtain rfl := hw
  refine lv_lstore_n (lv' := [(2, .long x_58), (0, .ref o0), (1, .int p1)]) hx hb dX12_finds_5 rfl hl (by decide) rfl (fun ls hl => ?_)
  refine lv_aload_n hx hb dX12_finds_6 rfl (lv_at hl 1 rfl) ?_
  refine tk_getP (D := (dC, dI)) (ci := 12) (v := .int v_31) (C := RX12) (T := TX12) (N := 56) hx hb hU inlX12 hown hK hP mo0 hfo_1 rfl 29 (by decide) (hU _ wd_570) (fun _ h9 => h9) rfl dX12_finds_7 ?_
  refine lv_istore (lv' := [(4, .int v_31), (2, .long x_58), (0, .ref o0), (1, .int p1)]) hx hb dX12_finds_10 hl (by decide) rfl (fun ls hl => ?_)
  have hloop_63 : ∀ (n : Nat), ∀ (y_64 : Int32), (0 ≤ y_64.toInt ∧ y_64.toInt ≤ 200) → y_64.toInt - 0 < (n : Int) → ∀ (ls : Array Slot), lv_has ls 6 [(4, .int y_64), (2, .long x_58), (0, .ref o0), (1, .int p1)] → W p l e (headSpec (wU yX12_finds cX12_finds 6 none) { frames := 1, cells := 0, slots := 0, locals := 24 }).room s m [.ref o0, .int p1].toArray below meth c H locs 0 0 (MQ below (va_Qv (fun (f9 : Nat → va_E) => GI (okc cI cL cZ cR cG cH L kd) kd L f9 ∧ (∀ b, kd b ≠ 12 → kd b ≠ 591 → f9 b = f b) ∧ (∀ b, kd b = 12 → ∀ j, fldR (f9 b) j = fldR (f b) j) ∧ (∀ b, kd b = 12 → ∀ j, j ≠ 27 → j ≠ 29 → fldI (f9 b) j = fldI (f b) j) ∧ (∀ (w27 z27 : Int32) (w29 z29 : Int32), fldI (f o0) 27 = some w27 → fldI (f o0) 29 = some w29 → fldI (f9 o0) 27 = some z27 → fldI (f9 o0) 29 = some z29 → z27.toInt = 1 ∨ z29.toInt ≤ 200)) (qP (dC, dI) cI cL cZ cR cG cH L) (fun q => q ∈ L)) [.ref o0, .int p1].toArray s 0 0 (fun q => q ∈ L)) (F0 m 12 ls []) := by
    intro n
    induction n with
    | zero => intro y_64 by_64 hmuhloop_63 ls hl; exfalso; omega
    | succ n ih_hloop_63 =>
      intro y_64 by_64 hmuhloop_63 ls hl
      refine lv_iload hx hb dX12_finds_12 (lv_at hl 0 rfl) ?_
      refine lv_if_le (tgt := 37) hx hb dX12_finds_14 (by decide) (fun c_65 => ?_) (fun c_65 => ?_)
      · skip
        rw [Int32.le_iff_toInt_le, ti_0] at c_65
        refine lv_iload hx hb dX12_finds_37 (lv_at hl 0 rfl) ?_
        refine lv_if_le (tgt := 57) hx hb dX12_finds_39 (by decide) (fun c_66 => ?_) (fun c_66 => ?_)
        · skip
          rw [Int32.le_iff_toInt_le, ti_0] at c_66
          refine lv_aload_n hx hb dX12_finds_57 rfl (lv_at hl 2 rfl) ?_
          refine tk_getP (D := (dC, dI)) (ci := 12) (v := .int v_31) (C := RX12) (T := TX12) (N := 56) hx hb hU inlX12 hown hK hP mo0 hfo_1 rfl 29 (by decide) (hU _ wd_570) (fun _ h9 => h9) rfl dX12_finds_58 ?_
          refine lv_istore (lv' := [(5, .int v_31), (4, .int y_64), (2, .long x_58), (0, .ref o0), (1, .int p1)]) hx hb dX12_finds_61 hl (by decide) rfl (fun ls hl => ?_)
          have hloop_72 : ∀ (n : Nat), ∀ (y_73 : Int32), (0 ≤ y_73.toInt ∧ y_73.toInt ≤ 200) → ∀ (f_75 : Nat → va_E), GI (okc cI cL cZ cR cG cH L kd) kd L f_75 → ∀ (H : Heap) (locs : List Loc), va_P (dC, dI) vwCl (va_pl L f_75) H → va_S (fun q => q ∈ L) s.heap H locs → va_D (fun q => q ∈ L) (va_pl L f_75) → (∀ b, kd b ≠ 12 → kd b ≠ 591 → f_75 b = f b) → (∀ b, kd b = 12 → ∀ j, fldR (f_75 b) j = fldR (f b) j) → (∀ b, kd b = 12 → ∀ j, j ≠ 27 → j ≠ 29 → fldI (f_75 b) j = fldI (f b) j) → (f_75 o0 = .inr (12, [.ref a_2, .ref a_3, .ref a_4, .int v_5, .ref a_6, .int v_7, .int v_8, .int v_9, .int v_10, .int v_11, .int v_12, .int v_13, .int v_14, .int v_15, .int v_16, .ref a_17, .ref a_18, .ref a_19, .ref a_20, .ref a_21, .ref a_22, .ref a_23, .ref a_24, .int v_25, .int v_26, .int v_27, .int v_28, .int v_29, .ref a_30, .int v_31, .ref a_32, .ref a_33, .int v_34, .int v_35, .ref a_36, .int v_37, .ref a_38, .ref a_39, .int v_40, .int v_41, .ref a_42, .ref a_43, .ref a_44, .int v_45, .ref a_46, .ref a_47, .ref a_48, .ref a_49, .ref a_50, .ref a_51, .ref a_52, .ref a_53, .ref a_54, .int v_55, .int v_56, .ref a_57])) → y_73.toInt - 0 < (n : Int) → ∀ (ls : Array Slot), lv_has ls 6 [(5, .int y_73), (4, .int y_64), (2, .long x_58), (0, .ref o0), (1, .int p1)] → W p l e (headSpec (wU yX12_finds cX12_finds 6 none) { frames := 1, cells := 0, slots := 0, locals := 24 }).room s m [.ref o0, .int p1].toArray below meth c H locs 0 0 (MQ below (va_Qv (fun (f9 : Nat → va_E) => GI (okc cI cL cZ cR cG cH L kd) kd L f9 ∧ (∀ b, kd b ≠ 12 → kd b ≠ 591 → f9 b = f b) ∧ (∀ b, kd b = 12 → ∀ j, fldR (f9 b) j = fldR (f b) j) ∧ (∀ b, kd b = 12 → ∀ j, j ≠ 27 → j ≠ 29 → fldI (f9 b) j = fldI (f b) j) ∧ (∀ (w27 z27 : Int32) (w29 z29 : Int32), fldI (f o0) 27 = some w27 → fldI (f o0) 29 = some w29 → fldI (f9 o0) 27 = some z27 → fldI (f9 o0) 29 = some z29 → z27.toInt = 1 ∨ z29.toInt ≤ 200)) (qP (dC, dI) cI cL cZ cR cG cH L) (fun q => q ∈ L)) [.ref o0, .int p1].toArray s 0 0 (fun q => q ∈ L)) (F0 m 63 ls []) := by
            intro n
            induction n with
            | zero => intro y_73 by_73 f_75 hG H locs hP hS hD hfr0 hrA12 hfA12 hfo_76 hmuhloop_72 ls hl; exfalso; omega
            | succ n ih_hloop_72 =>
              intro y_73 by_73 f_75 hG H locs hP hS hD hfr0 hrA12 hfA12 hfo_76 hmuhloop_72 ls hl
              refine lv_iload hx hb dX12_finds_63 (lv_at hl 0 rfl) ?_
              refine lv_iload hx hb dX12_finds_65 (lv_at hl 1 rfl) ?_
              refine lv_icmp_le (tgt := 92) hx hb dX12_finds_67 (by decide) (fun c_77 => ?_) (fun c_77 => ?_)
              · skip
                rw [Int32.le_iff_toInt_le] at c_77
                refine lv_aload_n hx hb dX12_finds_92 rfl (lv_at hl 3 rfl) ?_
                refine tk_getP (D := (dC, dI)) (ci := 12) (v := .ref a_30) (C := RX12) (T := TX12) (N := 56) hx hb hU inlX12 hown hK hP mo0 hfo_76 rfl 28 (by decide) (hU _ wd_183) (fun _ h9 => h9) rfl dX12_finds_93 ?_
                refine lv_iload hx hb dX12_finds_96 (lv_at hl 1 rfl) ?_
                refine lv_lload_n hx hb dX12_finds_98 rfl (lv_at hl 2 rfl) ?_
                obtain ⟨g_79, hfo_78⟩ := un_591 (hG _ ma_30) ka_30
                refine tk_lstP hx hb hK hP hD hS 1 ma_30 hfo_78 rfl (vp_in_iff.mpr (by constructor <;> omega)) dX12_finds_99 (fun H locs hP hD hS => ?_)
                obtain ⟨f_81, ef_81⟩ : ∃ y : Nat → va_E, y = va_up f_75 a_30 (.inl (cL, 201, .inr (.inl (vp_updL g_79 (Int32.toNatClampNeg y_64) x_58)))) := ⟨_, rfl⟩
                have hP : va_P (dC, dI) vwCl (va_pl L f_81) H := by rw [ef_81]; exact hP
                have hD : va_D (fun q => q ∈ L) (va_pl L f_81) := by rw [ef_81]; exact hD
                have hG : GI (okc cI cL cZ cR cG cH L kd) kd L f_81 := by rw [ef_81]; exact hG.set a_30 (mk_591 ka_30 ⟨_, rfl⟩)
                have hfo_82 : f_81 o0 = .inr (12, [.ref a_2, .ref a_3, .ref a_4, .int v_5, .ref a_6, .int v_7, .int v_8, .int v_9, .int v_10, .int v_11, .int v_12, .int v_13, .int v_14, .int v_15, .int v_16, .ref a_17, .ref a_18, .ref a_19, .ref a_20, .ref a_21, .ref a_22, .ref a_23, .ref a_24, .int v_25, .int v_26, .int v_27, .int v_28, .int v_29, .ref a_30, .int v_31, .ref a_32, .ref a_33, .int v_34, .int v_35, .ref a_36, .int v_37, .ref a_38, .ref a_39, .int v_40, .int v_41, .ref a_42, .ref a_43, .ref a_44, .int v_45, .ref a_46, .ref a_47, .ref a_48, .ref a_49, .ref a_50, .ref a_51, .ref a_52, .ref a_53, .ref a_54, .int v_55, .int v_56, .ref a_57]) := by rw [ef_81, up_ne (kd_ne ka_30 ko0 (by decide))]; exact hfo_76
                have hfr0 : ∀ b, kd b ≠ 12 → kd b ≠ 591 → f_81 b = f b := fun b q12 q591 => (congrFun ef_81 b).trans ((up_ne (fun e9 => q591 (by rw [e9]; exact ka_30))).trans (hfr0 b q12 q591))
                have hrA12 : ∀ b, kd b = 12 → ∀ j, fldR (f_81 b) j = fldR (f b) j := fun b kb j => (congrArg (fun x => fldR x j) ((congrFun ef_81 b).trans (up_ne (kd_ne ka_30 kb (by decide))))).trans (hrA12 b kb j)
                have hfA12 : ∀ b, kd b = 12 → ∀ j, j ≠ 27 → j ≠ 29 → fldI (f_81 b) j = fldI (f b) j := fun b kb j n27 n29 => (congrArg (fun x => fldI x j) ((congrFun ef_81 b).trans (up_ne (kd_ne ka_30 kb (by decide))))).trans (hfA12 b kb j n27 n29)
                have hfo_83 : f_81 a_30 = .inl (cL, 201, .inr (.inl (vp_updL g_79 (Int32.toNatClampNeg y_64) x_58))) := by rw [ef_81]; exact up_self
                refine lv_aload_n hx hb dX12_finds_100 rfl (lv_at hl 3 rfl) ?_
                refine lv_dup hx hb dX12_finds_101 rfl ?_
                refine tk_getP (D := (dC, dI)) (ci := 12) (v := .int v_31) (C := RX12) (T := TX12) (N := 56) hx hb hU inlX12 hown hK hP mo0 hfo_82 rfl 29 (by decide) (hU _ wd_570) (fun _ h9 => h9) rfl dX12_finds_102 ?_
                refine lv_iconst (v := 1) hx hb dX12_finds_105 (by decide) ?_
                refine lv_iadd hx hb dX12_finds_106 ?_
                refine lv_topi (fun x_84 ex_84 => ?_)
                have hx_84 : x_84.toInt = v_31.toInt + 1 := by rw [ex_84, ad_I (by rw [ti_1]; omega) (by rw [ti_1]; omega), ti_1]
                have bx_84 : (1 ≤ x_84.toInt ∧ x_84.toInt ≤ 201) := by constructor <;> omega
                refine tk_putP (D := (dC, dI)) (ci := 12) (v := .int x_84) (ty := .int) (C := RX12) (T := TX12) (N := 56) hx hb hU inlX12 tyX12 tyX12_ok nmX12 hown hK hP hD hS mo0 hfo_82 rfl 29 (by decide) (hU _ wd_570) (fun _ h9 => h9) rfl (by decide +kernel) rfl rfl (Nat.le_of_ble_eq_true rfl) dX12_finds_107 (fun H locs hP hD hS => ?_)
                obtain ⟨f_86, ef_86⟩ : ∃ y : Nat → va_E, y = va_up f_81 o0 (.inr (12, [.ref a_2, .ref a_3, .ref a_4, .int v_5, .ref a_6, .int v_7, .int v_8, .int v_9, .int v_10, .int v_11, .int v_12, .int v_13, .int v_14, .int v_15, .int v_16, .ref a_17, .ref a_18, .ref a_19, .ref a_20, .ref a_21, .ref a_22, .ref a_23, .ref a_24, .int v_25, .int v_26, .int v_27, .int v_28, .int v_29, .ref a_30, .int x_84, .ref a_32, .ref a_33, .int v_34, .int v_35, .ref a_36, .int v_37, .ref a_38, .ref a_39, .int v_40, .int v_41, .ref a_42, .ref a_43, .ref a_44, .int v_45, .ref a_46, .ref a_47, .ref a_48, .ref a_49, .ref a_50, .ref a_51, .ref a_52, .ref a_53, .ref a_54, .int v_55, .int v_56, .ref a_57])) := ⟨_, rfl⟩
                have hP : va_P (dC, dI) vwCl (va_pl L f_86) H := by rw [ef_86]; exact hP
                have hD : va_D (fun q => q ∈ L) (va_pl L f_86) := by rw [ef_86]; exact hD
                have hG : GI (okc cI cL cZ cR cG cH L kd) kd L f_86 := by rw [ef_86]; exact hG.set o0 (mk_12 ko0 ⟨a_2, a_3, a_4, v_5, a_6, v_7, v_8, v_9, v_10, v_11, v_12, v_13, v_14, v_15, v_16, a_17, a_18, a_19, a_20, a_21, a_22, a_23, a_24, v_25, v_26, v_27, v_28, v_29, a_30, x_84, a_32, a_33, v_34, v_35, a_36, v_37, a_38, a_39, v_40, v_41, a_42, a_43, a_44, v_45, a_46, a_47, a_48, a_49, a_50, a_51, a_52, a_53, a_54, v_55, v_56, a_57, rfl, ⟨ma_2, ka_2⟩, ⟨ma_3, ka_3⟩, ⟨ma_4, ka_4⟩, (by constructor <;> omega), ⟨ma_6, ka_6⟩, (by constructor <;> omega), (by constructor <;> omega), (by constructor <;> omega), (by constructor <;> omega), (by constructor <;> omega), ⟨ma_17, ka_17⟩, ⟨ma_18, ka_18⟩, ⟨ma_19, ka_19⟩, ⟨ma_20, ka_20⟩, ⟨ma_21, ka_21⟩, ⟨ma_22, ka_22⟩, ⟨ma_23, ka_23⟩, ⟨ma_24, ka_24⟩, (by constructor <;> omega), (by constructor <;> omega), (by constructor <;> omega), ⟨ma_30, ka_30⟩, (by constructor <;> omega), ⟨ma_32, ka_32⟩, ⟨ma_33, ka_33⟩, (by constructor <;> omega), ⟨ma_36, ka_36⟩, (by constructor <;> omega), ⟨ma_38, ka_38⟩, ⟨ma_39, ka_39⟩, (by constructor <;> omega), ⟨ma_42, ka_42⟩, ⟨ma_43, ka_43⟩, ⟨ma_44, ka_44⟩, (by constructor <;> omega), ⟨ma_46, ka_46⟩, ⟨ma_47, ka_47⟩, ⟨ma_48, ka_48⟩, ⟨ma_49, ka_49⟩, ⟨ma_50, ka_50⟩, ⟨ma_51, ka_51⟩, ⟨ma_52, ka_52⟩, ⟨ma_53, ka_53⟩, ⟨ma_54, ka_54⟩, (by constructor <;> omega), ⟨ma_57, ka_57⟩⟩)
                have hfr0 : ∀ b, kd b ≠ 12 → kd b ≠ 591 → f_86 b = f b := fun b q12 q591 => (congrFun ef_86 b).trans ((up_ne (fun e9 => q12 (by rw [e9]; exact ko0))).trans (hfr0 b q12 q591))
                have hrA12 : ∀ b, kd b = 12 → ∀ j, fldR (f_86 b) j = fldR (f b) j := fun b kb j => ((congrArg (fun x => fldR x j) (congrFun ef_86 b)).trans (fra_up (fun j => by rw [hfo_82]; exact fr_set (k := 29) rfl rfl j) j b)).trans (hrA12 b kb j)
                have hfA12 : ∀ b, kd b = 12 → ∀ j, j ≠ 27 → j ≠ 29 → fldI (f_86 b) j = fldI (f b) j := fun b kb j n27 n29 => ((congrArg (fun x => fldI x j) (congrFun ef_86 b)).trans (fia_up (fun h9 => by rw [hfo_82]; exact fi_set (k := 29) rfl h9) n29 b)).trans (hfA12 b kb j n27 n29)
                have hfo_87 : f_86 o0 = .inr (12, [.ref a_2, .ref a_3, .ref a_4, .int v_5, .ref a_6, .int v_7, .int v_8, .int v_9, .int v_10, .int v_11, .int v_12, .int v_13, .int v_14, .int v_15, .int v_16, .ref a_17, .ref a_18, .ref a_19, .ref a_20, .ref a_21, .ref a_22, .ref a_23, .ref a_24, .int v_25, .int v_26, .int v_27, .int v_28, .int v_29, .ref a_30, .int x_84, .ref a_32, .ref a_33, .int v_34, .int v_35, .ref a_36, .int v_37, .ref a_38, .ref a_39, .int v_40, .int v_41, .ref a_42, .ref a_43, .ref a_44, .int v_45, .ref a_46, .ref a_47, .ref a_48, .ref a_49, .ref a_50, .ref a_51, .ref a_52, .ref a_53, .ref a_54, .int v_55, .int v_56, .ref a_57]) := by rw [ef_86]; exact up_self
                refine lv_aload_n hx hb dX12_finds_110 rfl (lv_at hl 3 rfl) ?_
                refine lv_aload_n hx hb dX12_finds_111 rfl (lv_at hl 3 rfl) ?_
                refine tk_getP (D := (dC, dI)) (ci := 12) (v := .int x_84) (C := RX12) (T := TX12) (N := 56) hx hb hU inlX12 hown hK hP mo0 hfo_87 rfl 29 (by decide) (hU _ wd_570) (fun _ h9 => h9) rfl dX12_finds_112 ?_
                refine lv_sipush (v := 200) hx hb dX12_finds_115 (by decide) ?_
                refine lv_icmp_le (tgt := 125) hx hb dX12_finds_118 (by decide) (fun c_88 => ?_) (fun c_88 => ?_)
                · skip
                  rw [Int32.le_iff_toInt_le, ti_200] at c_88
                  refine lv_iconst (v := 0) hx hb dX12_finds_125 (by decide) ?_
                  refine tk_putP (D := (dC, dI)) (ci := 12) (v := .int 0) (ty := .boolean) (C := RX12) (T := TX12) (N := 56) hx hb hU inlX12 tyX12 tyX12_ok nmX12 hown hK hP hD hS mo0 hfo_87 rfl 27 (by decide) (hU _ wd_873) (fun _ h9 => h9) rfl (by decide +kernel) rfl rfl (Nat.le_of_ble_eq_true rfl) dX12_finds_126 (fun H locs hP hD hS => ?_)
                  obtain ⟨f_90, ef_90⟩ : ∃ y : Nat → va_E, y = va_up f_86 o0 (.inr (12, [.ref a_2, .ref a_3, .ref a_4, .int v_5, .ref a_6, .int v_7, .int v_8, .int v_9, .int v_10, .int v_11, .int v_12, .int v_13, .int v_14, .int v_15, .int v_16, .ref a_17, .ref a_18, .ref a_19, .ref a_20, .ref a_21, .ref a_22, .ref a_23, .ref a_24, .int v_25, .int v_26, .int v_27, .int v_28, .int 0, .ref a_30, .int x_84, .ref a_32, .ref a_33, .int v_34, .int v_35, .ref a_36, .int v_37, .ref a_38, .ref a_39, .int v_40, .int v_41, .ref a_42, .ref a_43, .ref a_44, .int v_45, .ref a_46, .ref a_47, .ref a_48, .ref a_49, .ref a_50, .ref a_51, .ref a_52, .ref a_53, .ref a_54, .int v_55, .int v_56, .ref a_57])) := ⟨_, rfl⟩
                  have hP : va_P (dC, dI) vwCl (va_pl L f_90) H := by rw [ef_90]; exact hP
                  have hD : va_D (fun q => q ∈ L) (va_pl L f_90) := by rw [ef_90]; exact hD
                  have hG : GI (okc cI cL cZ cR cG cH L kd) kd L f_90 := by rw [ef_90]; exact hG.set o0 (mk_12 ko0 ⟨a_2, a_3, a_4, v_5, a_6, v_7, v_8, v_9, v_10, v_11, v_12, v_13, v_14, v_15, v_16, a_17, a_18, a_19, a_20, a_21, a_22, a_23, a_24, v_25, v_26, v_27, v_28, 0, a_30, x_84, a_32, a_33, v_34, v_35, a_36, v_37, a_38, a_39, v_40, v_41, a_42, a_43, a_44, v_45, a_46, a_47, a_48, a_49, a_50, a_51, a_52, a_53, a_54, v_55, v_56, a_57, rfl, ⟨ma_2, ka_2⟩, ⟨ma_3, ka_3⟩, ⟨ma_4, ka_4⟩, (by constructor <;> omega), ⟨ma_6, ka_6⟩, (by constructor <;> omega), (by constructor <;> omega), (by constructor <;> omega), (by constructor <;> omega), (by constructor <;> omega), ⟨ma_17, ka_17⟩, ⟨ma_18, ka_18⟩, ⟨ma_19, ka_19⟩, ⟨ma_20, ka_20⟩, ⟨ma_21, ka_21⟩, ⟨ma_22, ka_22⟩, ⟨ma_23, ka_23⟩, ⟨ma_24, ka_24⟩, (by constructor <;> omega), (by constructor <;> omega), (by decide), ⟨ma_30, ka_30⟩, (by constructor <;> omega), ⟨ma_32, ka_32⟩, ⟨ma_33, ka_33⟩, (by constructor <;> omega), ⟨ma_36, ka_36⟩, (by constructor <;> omega), ⟨ma_38, ka_38⟩, ⟨ma_39, ka_39⟩, (by constructor <;> omega), ⟨ma_42, ka_42⟩, ⟨ma_43, ka_43⟩, ⟨ma_44, ka_44⟩, (by constructor <;> omega), ⟨ma_46, ka_46⟩, ⟨ma_47, ka_47⟩, ⟨ma_48, ka_48⟩, ⟨ma_49, ka_49⟩, ⟨ma_50, ka_50⟩, ⟨ma_51, ka_51⟩, ⟨ma_52, ka_52⟩, ⟨ma_53, ka_53⟩, ⟨ma_54, ka_54⟩, (by constructor <;> omega), ⟨ma_57, ka_57⟩⟩)
                  have hfr0 : ∀ b, kd b ≠ 12 → kd b ≠ 591 → f_90 b = f b := fun b q12 q591 => (congrFun ef_90 b).trans ((up_ne (fun e9 => q12 (by rw [e9]; exact ko0))).trans (hfr0 b q12 q591))
                  have hrA12 : ∀ b, kd b = 12 → ∀ j, fldR (f_90 b) j = fldR (f b) j := fun b kb j => ((congrArg (fun x => fldR x j) (congrFun ef_90 b)).trans (fra_up (fun j => by rw [hfo_87]; exact fr_set (k := 27) rfl rfl j) j b)).trans (hrA12 b kb j)
                  have hfA12 : ∀ b, kd b = 12 → ∀ j, j ≠ 27 → j ≠ 29 → fldI (f_90 b) j = fldI (f b) j := fun b kb j n27 n29 => ((congrArg (fun x => fldI x j) (congrFun ef_90 b)).trans (fia_up (fun h9 => by rw [hfo_87]; exact fi_set (k := 27) rfl h9) n27 b)).trans (hfA12 b kb j n27 n29)
                  have hfo_91 : f_90 o0 = .inr (12, [.ref a_2, .ref a_3, .ref a_4, .int v_5, .ref a_6, .int v_7, .int v_8, .int v_9, .int v_10, .int v_11, .int v_12, .int v_13, .int v_14, .int v_15, .int v_16, .ref a_17, .ref a_18, .ref a_19, .ref a_20, .ref a_21, .ref a_22, .ref a_23, .ref a_24, .int v_25, .int v_26, .int v_27, .int v_28, .int 0, .ref a_30, .int x_84, .ref a_32, .ref a_33, .int v_34, .int v_35, .ref a_36, .int v_37, .ref a_38, .ref a_39, .int v_40, .int v_41, .ref a_42, .ref a_43, .ref a_44, .int v_45, .ref a_46, .ref a_47, .ref a_48, .ref a_49, .ref a_50, .ref a_51, .ref a_52, .ref a_53, .ref a_54, .int v_55, .int v_56, .ref a_57]) := by rw [ef_90]; exact up_self
                  exact W.vret hx hb hr (fun t ht hW => ⟨⟨f_90, rfl, ⟨hG, hfr0, hrA12, hfA12, (by intro w27 z27 w29 z29 e27 e29 d27 d29; rw [hfo_1] at e27 e29; rw [hfo_91] at d27 d29; obtain rfl := Option.some.inj e27; obtain rfl := Option.some.inj d27; obtain rfl := Option.some.inj e29; obtain rfl := Option.some.inj d29; (try rw [ti_0]) <;> omega)⟩, by rw [ht]; exact hP, va_K.moved hW.alike hK, pl_in hD⟩, hS.F ht⟩) hS.2.2 dX12_finds_129
                · skip
                  rw [Int32.le_iff_toInt_le, ti_200] at c_88
                  refine lv_iconst (v := 1) hx hb dX12_finds_121 (by decide) ?_
                  refine lv_goto (tgt := 126) hx hb dX12_finds_122 (by decide) ?_
                  refine tk_putP (D := (dC, dI)) (ci := 12) (v := .int 1) (ty := .boolean) (C := RX12) (T := TX12) (N := 56) hx hb hU inlX12 tyX12 tyX12_ok nmX12 hown hK hP hD hS mo0 hfo_87 rfl 27 (by decide) (hU _ wd_873) (fun _ h9 => h9) rfl (by decide +kernel) rfl rfl (Nat.le_of_ble_eq_true rfl) dX12_finds_126 (fun H locs hP hD hS => ?_)
                  obtain ⟨f_93, ef_93⟩ : ∃ y : Nat → va_E, y = va_up f_86 o0 (.inr (12, [.ref a_2, .ref a_3, .ref a_4, .int v_5, .ref a_6, .int v_7, .int v_8, .int v_9, .int v_10, .int v_11, .int v_12, .int v_13, .int v_14, .int v_15, .int v_16, .ref a_17, .ref a_18, .ref a_19, .ref a_20, .ref a_21, .ref a_22, .ref a_23, .ref a_24, .int v_25, .int v_26, .int v_27, .int v_28, .int 1, .ref a_30, .int x_84, .ref a_32, .ref a_33, .int v_34, .int v_35, .ref a_36, .int v_37, .ref a_38, .ref a_39, .int v_40, .int v_41, .ref a_42, .ref a_43, .ref a_44, .int v_45, .ref a_46, .ref a_47, .ref a_48, .ref a_49, .ref a_50, .ref a_51, .ref a_52, .ref a_53, .ref a_54, .int v_55, .int v_56, .ref a_57])) := ⟨_, rfl⟩
                  have hP : va_P (dC, dI) vwCl (va_pl L f_93) H := by rw [ef_93]; exact hP
                  have hD : va_D (fun q => q ∈ L) (va_pl L f_93) := by rw [ef_93]; exact hD
                  have hG : GI (okc cI cL cZ cR cG cH L kd) kd L f_93 := by rw [ef_93]; exact hG.set o0 (mk_12 ko0 ⟨a_2, a_3, a_4, v_5, a_6, v_7, v_8, v_9, v_10, v_11, v_12, v_13, v_14, v_15, v_16, a_17, a_18, a_19, a_20, a_21, a_22, a_23, a_24, v_25, v_26, v_27, v_28, 1, a_30, x_84, a_32, a_33, v_34, v_35, a_36, v_37, a_38, a_39, v_40, v_41, a_42, a_43, a_44, v_45, a_46, a_47, a_48, a_49, a_50, a_51, a_52, a_53, a_54, v_55, v_56, a_57, rfl, ⟨ma_2, ka_2⟩, ⟨ma_3, ka_3⟩, ⟨ma_4, ka_4⟩, (by constructor <;> omega), ⟨ma_6, ka_6⟩, (by constructor <;> omega), (by constructor <;> omega), (by constructor <;> omega), (by constructor <;> omega), (by constructor <;> omega), ⟨ma_17, ka_17⟩, ⟨ma_18, ka_18⟩, ⟨ma_19, ka_19⟩, ⟨ma_20, ka_20⟩, ⟨ma_21, ka_21⟩, ⟨ma_22, ka_22⟩, ⟨ma_23, ka_23⟩, ⟨ma_24, ka_24⟩, (by constructor <;> omega), (by constructor <;> omega), (by decide), ⟨ma_30, ka_30⟩, (by constructor <;> omega), ⟨ma_32, ka_32⟩, ⟨ma_33, ka_33⟩, (by constructor <;> omega), ⟨ma_36, ka_36⟩, (by constructor <;> omega), ⟨ma_38, ka_38⟩, ⟨ma_39, ka_39⟩, (by constructor <;> omega), ⟨ma_42, ka_42⟩, ⟨ma_43, ka_43⟩, ⟨ma_44, ka_44⟩, (by constructor <;> omega), ⟨ma_46, ka_46⟩, ⟨ma_47, ka_47⟩, ⟨ma_48, ka_48⟩, ⟨ma_49, ka_49⟩, ⟨ma_50, ka_50⟩, ⟨ma_51, ka_51⟩, ⟨ma_52, ka_52⟩, ⟨ma_53, ka_53⟩, ⟨ma_54, ka_54⟩, (by constructor <;> omega), ⟨ma_57, ka_57⟩⟩)
                  have hfr0 : ∀ b, kd b ≠ 12 → kd b ≠ 591 → f_93 b = f b := fun b q12 q591 => (congrFun ef_93 b).trans ((up_ne (fun e9 => q12 (by rw [e9]; exact ko0))).trans (hfr0 b q12 q591))
                  have hrA12 : ∀ b, kd b = 12 → ∀ j, fldR (f_93 b) j = fldR (f b) j := fun b kb j => ((congrArg (fun x => fldR x j) (congrFun ef_93 b)).trans (fra_up (fun j => by rw [hfo_87]; exact fr_set (k := 27) rfl rfl j) j b)).trans (hrA12 b kb j)
                  have hfA12 : ∀ b, kd b = 12 → ∀ j, j ≠ 27 → j ≠ 29 → fldI (f_93 b) j = fldI (f b) j := fun b kb j n27 n29 => ((congrArg (fun x => fldI x j) (congrFun ef_93 b)).trans (fia_up (fun h9 => by rw [hfo_87]; exact fi_set (k := 27) rfl h9) n27 b)).trans (hfA12 b kb j n27 n29)
                  have hfo_94 : f_93 o0 = .inr (12, [.ref a_2, .ref a_3, .ref a_4, .int v_5, .ref a_6, .int v_7, .int v_8, .int v_9, .int v_10, .int v_11, .int v_12, .int v_13, .int v_14, .int v_15, .int v_16, .ref a_17, .ref a_18, .ref a_19, .ref a_20, .ref a_21, .ref a_22, .ref a_23, .ref a_24, .int v_25, .int v_26, .int v_27, .int v_28, .int 1, .ref a_30, .int x_84, .ref a_32, .ref a_33, .int v_34, .int v_35, .ref a_36, .int v_37, .ref a_38, .ref a_39, .int v_40, .int v_41, .ref a_42, .ref a_43, .ref a_44, .int v_45, .ref a_46, .ref a_47, .ref a_48, .ref a_49, .ref a_50, .ref a_51, .ref a_52, .ref a_53, .ref a_54, .int v_55, .int v_56, .ref a_57]) := by rw [ef_93]; exact up_self
                  exact W.vret hx hb hr (fun t ht hW => ⟨⟨f_93, rfl, ⟨hG, hfr0, hrA12, hfA12, (by intro w27 z27 w29 z29 e27 e29 d27 d29; rw [hfo_1] at e27 e29; rw [hfo_94] at d27 d29; obtain rfl := Option.some.inj e27; obtain rfl := Option.some.inj d27; obtain rfl := Option.some.inj e29; obtain rfl := Option.some.inj d29; (try rw [ti_1]) <;> omega)⟩, by rw [ht]; exact hP, va_K.moved hW.alike hK, pl_in hD⟩, hS.F ht⟩) hS.2.2 dX12_finds_129
              · skip
                rw [Int32.le_iff_toInt_le] at c_77
                refine lv_aload_n hx hb dX12_finds_70 rfl (lv_at hl 3 rfl) ?_
                refine tk_getP (D := (dC, dI)) (ci := 12) (v := .ref a_30) (C := RX12) (T := TX12) (N := 56) hx hb hU inlX12 hown hK hP mo0 hfo_76 rfl 28 (by decide) (hU _ wd_183) (fun _ h9 => h9) rfl dX12_finds_71 ?_
                refine lv_iload hx hb dX12_finds_74 (lv_at hl 0 rfl) ?_
                refine lv_aload_n hx hb dX12_finds_76 rfl (lv_at hl 3 rfl) ?_
                refine tk_getP (D := (dC, dI)) (ci := 12) (v := .ref a_30) (C := RX12) (T := TX12) (N := 56) hx hb hU inlX12 hown hK hP mo0 hfo_76 rfl 28 (by decide) (hU _ wd_183) (fun _ h9 => h9) rfl dX12_finds_77 ?_
                refine lv_iload hx hb dX12_finds_80 (lv_at hl 0 rfl) ?_
                refine lv_iconst (v := 1) hx hb dX12_finds_82 (by decide) ?_
                refine lv_isub hx hb dX12_finds_83 ?_
                refine lv_topi (fun x_95 ex_95 => ?_)
                have hx_95 : x_95.toInt = y_73.toInt - 1 := by rw [ex_95, sb_I (by rw [ti_1]; omega) (by rw [ti_1]; omega), ti_1]
                have bx_95 : (0 ≤ x_95.toInt ∧ x_95.toInt ≤ 199) := by constructor <;> omega
                obtain ⟨g_97, hfo_96⟩ := un_591 (hG _ ma_30) ka_30
                refine tk_lldP hx hb hK hP 1 ma_30 hfo_96 rfl (vp_in_iff.mpr (by constructor <;> omega)) dX12_finds_84 ?_
                refine lv_topl (fun j_98 ej_98 => ?_)
                refine tk_lstP hx hb hK hP hD hS 1 ma_30 hfo_96 rfl (vp_in_iff.mpr (by constructor <;> omega)) dX12_finds_85 (fun H locs hP hD hS => ?_)
                obtain ⟨f_100, ef_100⟩ : ∃ y : Nat → va_E, y = va_up f_75 a_30 (.inl (cL, 201, .inr (.inl (vp_updL g_97 (Int32.toNatClampNeg y_73) j_98)))) := ⟨_, rfl⟩
                have hP : va_P (dC, dI) vwCl (va_pl L f_100) H := by rw [ef_100]; exact hP
                have hD : va_D (fun q => q ∈ L) (va_pl L f_100) := by rw [ef_100]; exact hD
                have hG : GI (okc cI cL cZ cR cG cH L kd) kd L f_100 := by rw [ef_100]; exact hG.set a_30 (mk_591 ka_30 ⟨_, rfl⟩)
                have hfo_101 : f_100 o0 = .inr (12, [.ref a_2, .ref a_3, .ref a_4, .int v_5, .ref a_6, .int v_7, .int v_8, .int v_9, .int v_10, .int v_11, .int v_12, .int v_13, .int v_14, .int v_15, .int v_16, .ref a_17, .ref a_18, .ref a_19, .ref a_20, .ref a_21, .ref a_22, .ref a_23, .ref a_24, .int v_25, .int v_26, .int v_27, .int v_28, .int v_29, .ref a_30, .int v_31, .ref a_32, .ref a_33, .int v_34, .int v_35, .ref a_36, .int v_37, .ref a_38, .ref a_39, .int v_40, .int v_41, .ref a_42, .ref a_43, .ref a_44, .int v_45, .ref a_46, .ref a_47, .ref a_48, .ref a_49, .ref a_50, .ref a_51, .ref a_52, .ref a_53, .ref a_54, .int v_55, .int v_56, .ref a_57]) := by rw [ef_100, up_ne (kd_ne ka_30 ko0 (by decide))]; exact hfo_76
                have hfr0 : ∀ b, kd b ≠ 12 → kd b ≠ 591 → f_100 b = f b := fun b q12 q591 => (congrFun ef_100 b).trans ((up_ne (fun e9 => q591 (by rw [e9]; exact ka_30))).trans (hfr0 b q12 q591))
                have hrA12 : ∀ b, kd b = 12 → ∀ j, fldR (f_100 b) j = fldR (f b) j := fun b kb j => (congrArg (fun x => fldR x j) ((congrFun ef_100 b).trans (up_ne (kd_ne ka_30 kb (by decide))))).trans (hrA12 b kb j)
                have hfA12 : ∀ b, kd b = 12 → ∀ j, j ≠ 27 → j ≠ 29 → fldI (f_100 b) j = fldI (f b) j := fun b kb j n27 n29 => (congrArg (fun x => fldI x j) ((congrFun ef_100 b).trans (up_ne (kd_ne ka_30 kb (by decide))))).trans (hfA12 b kb j n27 n29)
                have hfo_102 : f_100 a_30 = .inl (cL, 201, .inr (.inl (vp_updL g_97 (Int32.toNatClampNeg y_73) j_98))) := by rw [ef_100]; exact up_self
                obtain ⟨x_103, ex_103⟩ : ∃ y : Int32, y_73 + (-1) = y := ⟨_, rfl⟩
                have hx_103 : x_103.toInt = y_73.toInt + (-1) := by rw [← ex_103, ad_I (by rw [ti_m1]; omega) (by rw [ti_m1]; omega), ti_m1]
                have bx_103 : (0 ≤ x_103.toInt ∧ x_103.toInt ≤ 199) := by constructor <;> omega
                refine lv_iinc (v := x_103) (lv' := [(5, .int x_103), (4, .int y_64), (2, .long x_58), (0, .ref o0), (1, .int p1)]) hx hb dX12_finds_86 hl (k := 0) rfl ex_103 (by decide) rfl (fun ls hl => ?_)
                refine lv_goto (tgt := 63) hx hb dX12_finds_89 (by decide) ?_
                exact ih_hloop_72 x_103 (by constructor <;> omega) f_100 hG _ _ hP hS hD hfr0 hrA12 hfA12 hfo_101 (by omega) ls (lv_sub hl [0, 1, 2, 3, 4] rfl)
          exact hloop_72 201 v_31 (by constructor <;> omega) f hG _ _ hP hS hD hfr0 hrA12 hfA12 hfo_1 (by omega) ls hl
        · skip
          rw [Int32.le_iff_toInt_le, ti_0] at c_66
          exfalso
          omega
      · skip
        rw [Int32.le_iff_toInt_le, ti_0] at c_65
        refine lv_aload_n hx hb dX12_finds_17 rfl (lv_at hl 2 rfl) ?_
        refine tk_getP (D := (dC, dI)) (ci := 12) (v := .ref a_30) (C := RX12) (T := TX12) (N := 56) hx hb hU inlX12 hown hK hP mo0 hfo_1 rfl 28 (by decide) (hU _ wd_183) (fun _ h9 => h9) rfl dX12_finds_18 ?_
        refine lv_iload hx hb dX12_finds_21 (lv_at hl 0 rfl) ?_
        refine lv_iconst (v := 1) hx hb dX12_finds_23 (by decide) ?_
        refine lv_isub hx hb dX12_finds_24 ?_
        refine lv_topi (fun x_104 ex_104 => ?_)
        have hx_104 : x_104.toInt = y_64.toInt - 1 := by rw [ex_104, sb_I (by rw [ti_1]; omega) (by rw [ti_1]; omega), ti_1]
        have bx_104 : (0 ≤ x_104.toInt ∧ x_104.toInt ≤ 199) := by constructor <;> omega
        obtain ⟨g_106, hfo_105⟩ := un_591 (hG _ ma_30) ka_30
        refine tk_lldP hx hb hK hP 1 ma_30 hfo_105 rfl (vp_in_iff.mpr (by constructor <;> omega)) dX12_finds_25 ?_
        refine lv_topl (fun j_107 ej_107 => ?_)
        refine lv_lload_n hx hb dX12_finds_26 rfl (lv_at hl 1 rfl) ?_
        refine lv_lcmp hx hb dX12_finds_27 (fun x_108 bx_108 hx_108 => ?_)
        refine lv_if_le (tgt := 37) hx hb dX12_finds_28 (by decide) (fun c_109 => ?_) (fun c_109 => ?_)
        · skip
          rw [Int32.le_iff_toInt_le, ti_0] at c_109
          refine lv_iload hx hb dX12_finds_37 (lv_at hl 0 rfl) ?_
          refine lv_if_le (tgt := 57) hx hb dX12_finds_39 (by decide) (fun c_110 => ?_) (fun c_110 => ?_)
          · skip
            rw [Int32.le_iff_toInt_le, ti_0] at c_110
            exfalso
            omega
          · skip
            rw [Int32.le_iff_toInt_le, ti_0] at c_110
            refine lv_aload_n hx hb dX12_finds_42 rfl (lv_at hl 2 rfl) ?_
            refine tk_getP (D := (dC, dI)) (ci := 12) (v := .ref a_30) (C := RX12) (T := TX12) (N := 56) hx hb hU inlX12 hown hK hP mo0 hfo_1 rfl 28 (by decide) (hU _ wd_183) (fun _ h9 => h9) rfl dX12_finds_43 ?_
            refine lv_iload hx hb dX12_finds_46 (lv_at hl 0 rfl) ?_
            refine lv_iconst (v := 1) hx hb dX12_finds_48 (by decide) ?_
            refine lv_isub hx hb dX12_finds_49 ?_
            refine lv_topi (fun x_111 ex_111 => ?_)
            have hx_111 : x_111.toInt = y_64.toInt - 1 := by rw [ex_111, sb_I (by rw [ti_1]; omega) (by rw [ti_1]; omega), ti_1]
            have bx_111 : (0 ≤ x_111.toInt ∧ x_111.toInt ≤ 199) := by constructor <;> omega
            refine tk_lldP hx hb hK hP 1 ma_30 hfo_105 rfl (vp_in_iff.mpr (by constructor <;> omega)) dX12_finds_50 ?_
            refine lv_topl (fun j_112 ej_112 => ?_)
            refine lv_lload_n hx hb dX12_finds_51 rfl (lv_at hl 1 rfl) ?_
            refine lv_lcmp hx hb dX12_finds_52 (fun x_113 bx_113 hx_113 => ?_)
            refine lv_if_ne (tgt := 57) hx hb dX12_finds_53 (by decide) (fun c_114 => ?_) (fun c_114 => ?_)
            · skip
              rw [← Int32.toInt_inj, ti_0] at c_114
              refine lv_aload_n hx hb dX12_finds_57 rfl (lv_at hl 2 rfl) ?_
              refine tk_getP (D := (dC, dI)) (ci := 12) (v := .int v_31) (C := RX12) (T := TX12) (N := 56) hx hb hU inlX12 hown hK hP mo0 hfo_1 rfl 29 (by decide) (hU _ wd_570) (fun _ h9 => h9) rfl dX12_finds_58 ?_
              refine lv_istore (lv' := [(5, .int v_31), (4, .int y_64), (2, .long x_58), (0, .ref o0), (1, .int p1)]) hx hb dX12_finds_61 hl (by decide) rfl (fun ls hl => ?_)
              have hloop_120 : ∀ (n : Nat), ∀ (y_121 : Int32), (0 ≤ y_121.toInt ∧ y_121.toInt ≤ 200) → ∀ (f_123 : Nat → va_E), GI (okc cI cL cZ cR cG cH L kd) kd L f_123 → ∀ (H : Heap) (locs : List Loc), va_P (dC, dI) vwCl (va_pl L f_123) H → va_S (fun q => q ∈ L) s.heap H locs → va_D (fun q => q ∈ L) (va_pl L f_123) → (∀ b, kd b ≠ 12 → kd b ≠ 591 → f_123 b = f b) → (∀ b, kd b = 12 → ∀ j, fldR (f_123 b) j = fldR (f b) j) → (∀ b, kd b = 12 → ∀ j, j ≠ 27 → j ≠ 29 → fldI (f_123 b) j = fldI (f b) j) → (f_123 o0 = .inr (12, [.ref a_2, .ref a_3, .ref a_4, .int v_5, .ref a_6, .int v_7, .int v_8, .int v_9, .int v_10, .int v_11, .int v_12, .int v_13, .int v_14, .int v_15, .int v_16, .ref a_17, .ref a_18, .ref a_19, .ref a_20, .ref a_21, .ref a_22, .ref a_23, .ref a_24, .int v_25, .int v_26, .int v_27, .int v_28, .int v_29, .ref a_30, .int v_31, .ref a_32, .ref a_33, .int v_34, .int v_35, .ref a_36, .int v_37, .ref a_38, .ref a_39, .int v_40, .int v_41, .ref a_42, .ref a_43, .ref a_44, .int v_45, .ref a_46, .ref a_47, .ref a_48, .ref a_49, .ref a_50, .ref a_51, .ref a_52, .ref a_53, .ref a_54, .int v_55, .int v_56, .ref a_57])) → y_121.toInt - 0 < (n : Int) → ∀ (ls : Array Slot), lv_has ls 6 [(5, .int y_121), (4, .int y_64), (2, .long x_58), (0, .ref o0), (1, .int p1)] → W p l e (headSpec (wU yX12_finds cX12_finds 6 none) { frames := 1, cells := 0, slots := 0, locals := 24 }).room s m [.ref o0, .int p1].toArray below meth c H locs 0 0 (MQ below (va_Qv (fun (f9 : Nat → va_E) => GI (okc cI cL cZ cR cG cH L kd) kd L f9 ∧ (∀ b, kd b ≠ 12 → kd b ≠ 591 → f9 b = f b) ∧ (∀ b, kd b = 12 → ∀ j, fldR (f9 b) j = fldR (f b) j) ∧ (∀ b, kd b = 12 → ∀ j, j ≠ 27 → j ≠ 29 → fldI (f9 b) j = fldI (f b) j) ∧ (∀ (w27 z27 : Int32) (w29 z29 : Int32), fldI (f o0) 27 = some w27 → fldI (f o0) 29 = some w29 → fldI (f9 o0) 27 = some z27 → fldI (f9 o0) 29 = some z29 → z27.toInt = 1 ∨ z29.toInt ≤ 200)) (qP (dC, dI) cI cL cZ cR cG cH L) (fun q => q ∈ L)) [.ref o0, .int p1].toArray s 0 0 (fun q => q ∈ L)) (F0 m 63 ls []) := by
                intro n
                induction n with
                | zero => intro y_121 by_121 f_123 hG H locs hP hS hD hfr0 hrA12 hfA12 hfo_124 hmuhloop_120 ls hl; exfalso; omega
                | succ n ih_hloop_120 =>
                  intro y_121 by_121 f_123 hG H locs hP hS hD hfr0 hrA12 hfA12 hfo_124 hmuhloop_120 ls hl
                  refine lv_iload hx hb dX12_finds_63 (lv_at hl 0 rfl) ?_
                  refine lv_iload hx hb dX12_finds_65 (lv_at hl 1 rfl) ?_
                  refine lv_icmp_le (tgt := 92) hx hb dX12_finds_67 (by decide) (fun c_125 => ?_) (fun c_125 => ?_)
                  · skip
                    rw [Int32.le_iff_toInt_le] at c_125
                    refine lv_aload_n hx hb dX12_finds_92 rfl (lv_at hl 3 rfl) ?_
                    refine tk_getP (D := (dC, dI)) (ci := 12) (v := .ref a_30) (C := RX12) (T := TX12) (N := 56) hx hb hU inlX12 hown hK hP mo0 hfo_124 rfl 28 (by decide) (hU _ wd_183) (fun _ h9 => h9) rfl dX12_finds_93 ?_
                    refine lv_iload hx hb dX12_finds_96 (lv_at hl 1 rfl) ?_
                    refine lv_lload_n hx hb dX12_finds_98 rfl (lv_at hl 2 rfl) ?_
                    obtain ⟨g_127, hfo_126⟩ := un_591 (hG _ ma_30) ka_30
                    refine tk_lstP hx hb hK hP hD hS 1 ma_30 hfo_126 rfl (vp_in_iff.mpr (by constructor <;> omega)) dX12_finds_99 (fun H locs hP hD hS => ?_)
                    obtain ⟨f_129, ef_129⟩ : ∃ y : Nat → va_E, y = va_up f_123 a_30 (.inl (cL, 201, .inr (.inl (vp_updL g_127 (Int32.toNatClampNeg y_64) x_58)))) := ⟨_, rfl⟩
                    have hP : va_P (dC, dI) vwCl (va_pl L f_129) H := by rw [ef_129]; exact hP
                    have hD : va_D (fun q => q ∈ L) (va_pl L f_129) := by rw [ef_129]; exact hD
                    have hG : GI (okc cI cL cZ cR cG cH L kd) kd L f_129 := by rw [ef_129]; exact hG.set a_30 (mk_591 ka_30 ⟨_, rfl⟩)
                    have hfo_130 : f_129 o0 = .inr (12, [.ref a_2, .ref a_3, .ref a_4, .int v_5, .ref a_6, .int v_7, .int v_8, .int v_9, .int v_10, .int v_11, .int v_12, .int v_13, .int v_14, .int v_15, .int v_16, .ref a_17, .ref a_18, .ref a_19, .ref a_20, .ref a_21, .ref a_22, .ref a_23, .ref a_24, .int v_25, .int v_26, .int v_27, .int v_28, .int v_29, .ref a_30, .int v_31, .ref a_32, .ref a_33, .int v_34, .int v_35, .ref a_36, .int v_37, .ref a_38, .ref a_39, .int v_40, .int v_41, .ref a_42, .ref a_43, .ref a_44, .int v_45, .ref a_46, .ref a_47, .ref a_48, .ref a_49, .ref a_50, .ref a_51, .ref a_52, .ref a_53, .ref a_54, .int v_55, .int v_56, .ref a_57]) := by rw [ef_129, up_ne (kd_ne ka_30 ko0 (by decide))]; exact hfo_124
                    have hfr0 : ∀ b, kd b ≠ 12 → kd b ≠ 591 → f_129 b = f b := fun b q12 q591 => (congrFun ef_129 b).trans ((up_ne (fun e9 => q591 (by rw [e9]; exact ka_30))).trans (hfr0 b q12 q591))
                    have hrA12 : ∀ b, kd b = 12 → ∀ j, fldR (f_129 b) j = fldR (f b) j := fun b kb j => (congrArg (fun x => fldR x j) ((congrFun ef_129 b).trans (up_ne (kd_ne ka_30 kb (by decide))))).trans (hrA12 b kb j)
                    have hfA12 : ∀ b, kd b = 12 → ∀ j, j ≠ 27 → j ≠ 29 → fldI (f_129 b) j = fldI (f b) j := fun b kb j n27 n29 => (congrArg (fun x => fldI x j) ((congrFun ef_129 b).trans (up_ne (kd_ne ka_30 kb (by decide))))).trans (hfA12 b kb j n27 n29)
                    have hfo_131 : f_129 a_30 = .inl (cL, 201, .inr (.inl (vp_updL g_127 (Int32.toNatClampNeg y_64) x_58))) := by rw [ef_129]; exact up_self
                    refine lv_aload_n hx hb dX12_finds_100 rfl (lv_at hl 3 rfl) ?_
                    refine lv_dup hx hb dX12_finds_101 rfl ?_
                    refine tk_getP (D := (dC, dI)) (ci := 12) (v := .int v_31) (C := RX12) (T := TX12) (N := 56) hx hb hU inlX12 hown hK hP mo0 hfo_130 rfl 29 (by decide) (hU _ wd_570) (fun _ h9 => h9) rfl dX12_finds_102 ?_
                    refine lv_iconst (v := 1) hx hb dX12_finds_105 (by decide) ?_
                    refine lv_iadd hx hb dX12_finds_106 ?_
                    refine lv_topi (fun x_132 ex_132 => ?_)
                    have hx_132 : x_132.toInt = v_31.toInt + 1 := by rw [ex_132, ad_I (by rw [ti_1]; omega) (by rw [ti_1]; omega), ti_1]
                    have bx_132 : (1 ≤ x_132.toInt ∧ x_132.toInt ≤ 201) := by constructor <;> omega
                    refine tk_putP (D := (dC, dI)) (ci := 12) (v := .int x_132) (ty := .int) (C := RX12) (T := TX12) (N := 56) hx hb hU inlX12 tyX12 tyX12_ok nmX12 hown hK hP hD hS mo0 hfo_130 rfl 29 (by decide) (hU _ wd_570) (fun _ h9 => h9) rfl (by decide +kernel) rfl rfl (Nat.le_of_ble_eq_true rfl) dX12_finds_107 (fun H locs hP hD hS => ?_)
                    obtain ⟨f_134, ef_134⟩ : ∃ y : Nat → va_E, y = va_up f_129 o0 (.inr (12, [.ref a_2, .ref a_3, .ref a_4, .int v_5, .ref a_6, .int v_7, .int v_8, .int v_9, .int v_10, .int v_11, .int v_12, .int v_13, .int v_14, .int v_15, .int v_16, .ref a_17, .ref a_18, .ref a_19, .ref a_20, .ref a_21, .ref a_22, .ref a_23, .ref a_24, .int v_25, .int v_26, .int v_27, .int v_28, .int v_29, .ref a_30, .int x_132, .ref a_32, .ref a_33, .int v_34, .int v_35, .ref a_36, .int v_37, .ref a_38, .ref a_39, .int v_40, .int v_41, .ref a_42, .ref a_43, .ref a_44, .int v_45, .ref a_46, .ref a_47, .ref a_48, .ref a_49, .ref a_50, .ref a_51, .ref a_52, .ref a_53, .ref a_54, .int v_55, .int v_56, .ref a_57])) := ⟨_, rfl⟩
                    have hP : va_P (dC, dI) vwCl (va_pl L f_134) H := by rw [ef_134]; exact hP
                    have hD : va_D (fun q => q ∈ L) (va_pl L f_134) := by rw [ef_134]; exact hD
                    have hG : GI (okc cI cL cZ cR cG cH L kd) kd L f_134 := by rw [ef_134]; exact hG.set o0 (mk_12 ko0 ⟨a_2, a_3, a_4, v_5, a_6, v_7, v_8, v_9, v_10, v_11, v_12, v_13, v_14, v_15, v_16, a_17, a_18, a_19, a_20, a_21, a_22, a_23, a_24, v_25, v_26, v_27, v_28, v_29, a_30, x_132, a_32, a_33, v_34, v_35, a_36, v_37, a_38, a_39, v_40, v_41, a_42, a_43, a_44, v_45, a_46, a_47, a_48, a_49, a_50, a_51, a_52, a_53, a_54, v_55, v_56, a_57, rfl, ⟨ma_2, ka_2⟩, ⟨ma_3, ka_3⟩, ⟨ma_4, ka_4⟩, (by constructor <;> omega), ⟨ma_6, ka_6⟩, (by constructor <;> omega), (by constructor <;> omega), (by constructor <;> omega), (by constructor <;> omega), (by constructor <;> omega), ⟨ma_17, ka_17⟩, ⟨ma_18, ka_18⟩, ⟨ma_19, ka_19⟩, ⟨ma_20, ka_20⟩, ⟨ma_21, ka_21⟩, ⟨ma_22, ka_22⟩, ⟨ma_23, ka_23⟩, ⟨ma_24, ka_24⟩, (by constructor <;> omega), (by constructor <;> omega), (by constructor <;> omega), ⟨ma_30, ka_30⟩, (by constructor <;> omega), ⟨ma_32, ka_32⟩, ⟨ma_33, ka_33⟩, (by constructor <;> omega), ⟨ma_36, ka_36⟩, (by constructor <;> omega), ⟨ma_38, ka_38⟩, ⟨ma_39, ka_39⟩, (by constructor <;> omega), ⟨ma_42, ka_42⟩, ⟨ma_43, ka_43⟩, ⟨ma_44, ka_44⟩, (by constructor <;> omega), ⟨ma_46, ka_46⟩, ⟨ma_47, ka_47⟩, ⟨ma_48, ka_48⟩, ⟨ma_49, ka_49⟩, ⟨ma_50, ka_50⟩, ⟨ma_51, ka_51⟩, ⟨ma_52, ka_52⟩, ⟨ma_53, ka_53⟩, ⟨ma_54, ka_54⟩, (by constructor <;> omega), ⟨ma_57, ka_57⟩⟩)
                    have hfr0 : ∀ b, kd b ≠ 12 → kd b ≠ 591 → f_134 b = f b := fun b q12 q591 => (congrFun ef_134 b).trans ((up_ne (fun e9 => q12 (by rw [e9]; exact ko0))).trans (hfr0 b q12 q591))
                    have hrA12 : ∀ b, kd b = 12 → ∀ j, fldR (f_134 b) j = fldR (f b) j := fun b kb j => ((congrArg (fun x => fldR x j) (congrFun ef_134 b)).trans (fra_up (fun j => by rw [hfo_130]; exact fr_set (k := 29) rfl rfl j) j b)).trans (hrA12 b kb j)
                    have hfA12 : ∀ b, kd b = 12 → ∀ j, j ≠ 27 → j ≠ 29 → fldI (f_134 b) j = fldI (f b) j := fun b kb j n27 n29 => ((congrArg (fun x => fldI x j) (congrFun ef_134 b)).trans (fia_up (fun h9 => by rw [hfo_130]; exact fi_set (k := 29) rfl h9) n29 b)).trans (hfA12 b kb j n27 n29)
                    have hfo_135 : f_134 o0 = .inr (12, [.ref a_2, .ref a_3, .ref a_4, .int v_5, .ref a_6, .int v_7, .int v_8, .int v_9, .int v_10, .int v_11, .int v_12, .int v_13, .int v_14, .int v_15, .int v_16, .ref a_17, .ref a_18, .ref a_19, .ref a_20, .ref a_21, .ref a_22, .ref a_23, .ref a_24, .int v_25, .int v_26, .int v_27, .int v_28, .int v_29, .ref a_30, .int x_132, .ref a_32, .ref a_33, .int v_34, .int v_35, .ref a_36, .int v_37, .ref a_38, .ref a_39, .int v_40, .int v_41, .ref a_42, .ref a_43, .ref a_44, .int v_45, .ref a_46, .ref a_47, .ref a_48, .ref a_49, .ref a_50, .ref a_51, .ref a_52, .ref a_53, .ref a_54, .int v_55, .int v_56, .ref a_57]) := by rw [ef_134]; exact up_self
                    refine lv_aload_n hx hb dX12_finds_110 rfl (lv_at hl 3 rfl) ?_
                    refine lv_aload_n hx hb dX12_finds_111 rfl (lv_at hl 3 rfl) ?_
                    refine tk_getP (D := (dC, dI)) (ci := 12) (v := .int x_132) (C := RX12) (T := TX12) (N := 56) hx hb hU inlX12 hown hK hP mo0 hfo_135 rfl 29 (by decide) (hU _ wd_570) (fun _ h9 => h9) rfl dX12_finds_112 ?_
                    refine lv_sipush (v := 200) hx hb dX12_finds_115 (by decide) ?_
                    refine lv_icmp_le (tgt := 125) hx hb dX12_finds_118 (by decide) (fun c_136 => ?_) (fun c_136 => ?_)
                    · skip
                      rw [Int32.le_iff_toInt_le, ti_200] at c_136
                      refine lv_iconst (v := 0) hx hb dX12_finds_125 (by decide) ?_
                      refine tk_putP (D := (dC, dI)) (ci := 12) (v := .int 0) (ty := .boolean) (C := RX12) (T := TX12) (N := 56) hx hb hU inlX12 tyX12 tyX12_ok nmX12 hown hK hP hD hS mo0 hfo_135 rfl 27 (by decide) (hU _ wd_873) (fun _ h9 => h9) rfl (by decide +kernel) rfl rfl (Nat.le_of_ble_eq_true rfl) dX12_finds_126 (fun H locs hP hD hS => ?_)
                      obtain ⟨f_138, ef_138⟩ : ∃ y : Nat → va_E, y = va_up f_134 o0 (.inr (12, [.ref a_2, .ref a_3, .ref a_4, .int v_5, .ref a_6, .int v_7, .int v_8, .int v_9, .int v_10, .int v_11, .int v_12, .int v_13, .int v_14, .int v_15, .int v_16, .ref a_17, .ref a_18, .ref a_19, .ref a_20, .ref a_21, .ref a_22, .ref a_23, .ref a_24, .int v_25, .int v_26, .int v_27, .int v_28, .int 0, .ref a_30, .int x_132, .ref a_32, .ref a_33, .int v_34, .int v_35, .ref a_36, .int v_37, .ref a_38, .ref a_39, .int v_40, .int v_41, .ref a_42, .ref a_43, .ref a_44, .int v_45, .ref a_46, .ref a_47, .ref a_48, .ref a_49, .ref a_50, .ref a_51, .ref a_52, .ref a_53, .ref a_54, .int v_55, .int v_56, .ref a_57])) := ⟨_, rfl⟩
                      have hP : va_P (dC, dI) vwCl (va_pl L f_138) H := by rw [ef_138]; exact hP
                      have hD : va_D (fun q => q ∈ L) (va_pl L f_138) := by rw [ef_138]; exact hD
                      have hG : GI (okc cI cL cZ cR cG cH L kd) kd L f_138 := by rw [ef_138]; exact hG.set o0 (mk_12 ko0 ⟨a_2, a_3, a_4, v_5, a_6, v_7, v_8, v_9, v_10, v_11, v_12, v_13, v_14, v_15, v_16, a_17, a_18, a_19, a_20, a_21, a_22, a_23, a_24, v_25, v_26, v_27, v_28, 0, a_30, x_132, a_32, a_33, v_34, v_35, a_36, v_37, a_38, a_39, v_40, v_41, a_42, a_43, a_44, v_45, a_46, a_47, a_48, a_49, a_50, a_51, a_52, a_53, a_54, v_55, v_56, a_57, rfl, ⟨ma_2, ka_2⟩, ⟨ma_3, ka_3⟩, ⟨ma_4, ka_4⟩, (by constructor <;> omega), ⟨ma_6, ka_6⟩, (by constructor <;> omega), (by constructor <;> omega), (by constructor <;> omega), (by constructor <;> omega), (by constructor <;> omega), ⟨ma_17, ka_17⟩, ⟨ma_18, ka_18⟩, ⟨ma_19, ka_19⟩, ⟨ma_20, ka_20⟩, ⟨ma_21, ka_21⟩, ⟨ma_22, ka_22⟩, ⟨ma_23, ka_23⟩, ⟨ma_24, ka_24⟩, (by constructor <;> omega), (by constructor <;> omega), (by decide), ⟨ma_30, ka_30⟩, (by constructor <;> omega), ⟨ma_32, ka_32⟩, ⟨ma_33, ka_33⟩, (by constructor <;> omega), ⟨ma_36, ka_36⟩, (by constructor <;> omega), ⟨ma_38, ka_38⟩, ⟨ma_39, ka_39⟩, (by constructor <;> omega), ⟨ma_42, ka_42⟩, ⟨ma_43, ka_43⟩, ⟨ma_44, ka_44⟩, (by constructor <;> omega), ⟨ma_46, ka_46⟩, ⟨ma_47, ka_47⟩, ⟨ma_48, ka_48⟩, ⟨ma_49, ka_49⟩, ⟨ma_50, ka_50⟩, ⟨ma_51, ka_51⟩, ⟨ma_52, ka_52⟩, ⟨ma_53, ka_53⟩, ⟨ma_54, ka_54⟩, (by constructor <;> omega), ⟨ma_57, ka_57⟩⟩)
                      have hfr0 : ∀ b, kd b ≠ 12 → kd b ≠ 591 → f_138 b = f b := fun b q12 q591 => (congrFun ef_138 b).trans ((up_ne (fun e9 => q12 (by rw [e9]; exact ko0))).trans (hfr0 b q12 q591))
                      have hrA12 : ∀ b, kd b = 12 → ∀ j, fldR (f_138 b) j = fldR (f b) j := fun b kb j => ((congrArg (fun x => fldR x j) (congrFun ef_138 b)).trans (fra_up (fun j => by rw [hfo_135]; exact fr_set (k := 27) rfl rfl j) j b)).trans (hrA12 b kb j)
                      have hfA12 : ∀ b, kd b = 12 → ∀ j, j ≠ 27 → j ≠ 29 → fldI (f_138 b) j = fldI (f b) j := fun b kb j n27 n29 => ((congrArg (fun x => fldI x j) (congrFun ef_138 b)).trans (fia_up (fun h9 => by rw [hfo_135]; exact fi_set (k := 27) rfl h9) n27 b)).trans (hfA12 b kb j n27 n29)
                      have hfo_139 : f_138 o0 = .inr (12, [.ref a_2, .ref a_3, .ref a_4, .int v_5, .ref a_6, .int v_7, .int v_8, .int v_9, .int v_10, .int v_11, .int v_12, .int v_13, .int v_14, .int v_15, .int v_16, .ref a_17, .ref a_18, .ref a_19, .ref a_20, .ref a_21, .ref a_22, .ref a_23, .ref a_24, .int v_25, .int v_26, .int v_27, .int v_28, .int 0, .ref a_30, .int x_132, .ref a_32, .ref a_33, .int v_34, .int v_35, .ref a_36, .int v_37, .ref a_38, .ref a_39, .int v_40, .int v_41, .ref a_42, .ref a_43, .ref a_44, .int v_45, .ref a_46, .ref a_47, .ref a_48, .ref a_49, .ref a_50, .ref a_51, .ref a_52, .ref a_53, .ref a_54, .int v_55, .int v_56, .ref a_57]) := by rw [ef_138]; exact up_self
                      exact W.vret hx hb hr (fun t ht hW => ⟨⟨f_138, rfl, ⟨hG, hfr0, hrA12, hfA12, (by intro w27 z27 w29 z29 e27 e29 d27 d29; rw [hfo_1] at e27 e29; rw [hfo_139] at d27 d29; obtain rfl := Option.some.inj e27; obtain rfl := Option.some.inj d27; obtain rfl := Option.some.inj e29; obtain rfl := Option.some.inj d29; (try rw [ti_0]) <;> omega)⟩, by rw [ht]; exact hP, va_K.moved hW.alike hK, pl_in hD⟩, hS.F ht⟩) hS.2.2 dX12_finds_129
                    · skip
                      rw [Int32.le_iff_toInt_le, ti_200] at c_136
                      refine lv_iconst (v := 1) hx hb dX12_finds_121 (by decide) ?_
                      refine lv_goto (tgt := 126) hx hb dX12_finds_122 (by decide) ?_
                      refine tk_putP (D := (dC, dI)) (ci := 12) (v := .int 1) (ty := .boolean) (C := RX12) (T := TX12) (N := 56) hx hb hU inlX12 tyX12 tyX12_ok nmX12 hown hK hP hD hS mo0 hfo_135 rfl 27 (by decide) (hU _ wd_873) (fun _ h9 => h9) rfl (by decide +kernel) rfl rfl (Nat.le_of_ble_eq_true rfl) dX12_finds_126 (fun H locs hP hD hS => ?_)
                      obtain ⟨f_141, ef_141⟩ : ∃ y : Nat → va_E, y = va_up f_134 o0 (.inr (12, [.ref a_2, .ref a_3, .ref a_4, .int v_5, .ref a_6, .int v_7, .int v_8, .int v_9, .int v_10, .int v_11, .int v_12, .int v_13, .int v_14, .int v_15, .int v_16, .ref a_17, .ref a_18, .ref a_19, .ref a_20, .ref a_21, .ref a_22, .ref a_23, .ref a_24, .int v_25, .int v_26, .int v_27, .int v_28, .int 1, .ref a_30, .int x_132, .ref a_32, .ref a_33, .int v_34, .int v_35, .ref a_36, .int v_37, .ref a_38, .ref a_39, .int v_40, .int v_41, .ref a_42, .ref a_43, .ref a_44, .int v_45, .ref a_46, .ref a_47, .ref a_48, .ref a_49, .ref a_50, .ref a_51, .ref a_52, .ref a_53, .ref a_54, .int v_55, .int v_56, .ref a_57])) := ⟨_, rfl⟩
                      have hP : va_P (dC, dI) vwCl (va_pl L f_141) H := by rw [ef_141]; exact hP
                      have hD : va_D (fun q => q ∈ L) (va_pl L f_141) := by rw [ef_141]; exact hD
                      have hG : GI (okc cI cL cZ cR cG cH L kd) kd L f_141 := by rw [ef_141]; exact hG.set o0 (mk_12 ko0 ⟨a_2, a_3, a_4, v_5, a_6, v_7, v_8, v_9, v_10, v_11, v_12, v_13, v_14, v_15, v_16, a_17, a_18, a_19, a_20, a_21, a_22, a_23, a_24, v_25, v_26, v_27, v_28, 1, a_30, x_132, a_32, a_33, v_34, v_35, a_36, v_37, a_38, a_39, v_40, v_41, a_42, a_43, a_44, v_45, a_46, a_47, a_48, a_49, a_50, a_51, a_52, a_53, a_54, v_55, v_56, a_57, rfl, ⟨ma_2, ka_2⟩, ⟨ma_3, ka_3⟩, ⟨ma_4, ka_4⟩, (by constructor <;> omega), ⟨ma_6, ka_6⟩, (by constructor <;> omega), (by constructor <;> omega), (by constructor <;> omega), (by constructor <;> omega), (by constructor <;> omega), ⟨ma_17, ka_17⟩, ⟨ma_18, ka_18⟩, ⟨ma_19, ka_19⟩, ⟨ma_20, ka_20⟩, ⟨ma_21, ka_21⟩, ⟨ma_22, ka_22⟩, ⟨ma_23, ka_23⟩, ⟨ma_24, ka_24⟩, (by constructor <;> omega), (by constructor <;> omega), (by decide), ⟨ma_30, ka_30⟩, (by constructor <;> omega), ⟨ma_32, ka_32⟩, ⟨ma_33, ka_33⟩, (by constructor <;> omega), ⟨ma_36, ka_36⟩, (by constructor <;> omega), ⟨ma_38, ka_38⟩, ⟨ma_39, ka_39⟩, (by constructor <;> omega), ⟨ma_42, ka_42⟩, ⟨ma_43, ka_43⟩, ⟨ma_44, ka_44⟩, (by constructor <;> omega), ⟨ma_46, ka_46⟩, ⟨ma_47, ka_47⟩, ⟨ma_48, ka_48⟩, ⟨ma_49, ka_49⟩, ⟨ma_50, ka_50⟩, ⟨ma_51, ka_51⟩, ⟨ma_52, ka_52⟩, ⟨ma_53, ka_53⟩, ⟨ma_54, ka_54⟩, (by constructor <;> omega), ⟨ma_57, ka_57⟩⟩)
                      have hfr0 : ∀ b, kd b ≠ 12 → kd b ≠ 591 → f_141 b = f b := fun b q12 q591 => (congrFun ef_141 b).trans ((up_ne (fun e9 => q12 (by rw [e9]; exact ko0))).trans (hfr0 b q12 q591))
                      have hrA12 : ∀ b, kd b = 12 → ∀ j, fldR (f_141 b) j = fldR (f b) j := fun b kb j => ((congrArg (fun x => fldR x j) (congrFun ef_141 b)).trans (fra_up (fun j => by rw [hfo_135]; exact fr_set (k := 27) rfl rfl j) j b)).trans (hrA12 b kb j)
                      have hfA12 : ∀ b, kd b = 12 → ∀ j, j ≠ 27 → j ≠ 29 → fldI (f_141 b) j = fldI (f b) j := fun b kb j n27 n29 => ((congrArg (fun x => fldI x j) (congrFun ef_141 b)).trans (fia_up (fun h9 => by rw [hfo_135]; exact fi_set (k := 27) rfl h9) n27 b)).trans (hfA12 b kb j n27 n29)
                      have hfo_142 : f_141 o0 = .inr (12, [.ref a_2, .ref a_3, .ref a_4, .int v_5, .ref a_6, .int v_7, .int v_8, .int v_9, .int v_10, .int v_11, .int v_12, .int v_13, .int v_14, .int v_15, .int v_16, .ref a_17, .ref a_18, .ref a_19, .ref a_20, .ref a_21, .ref a_22, .ref a_23, .ref a_24, .int v_25, .int v_26, .int v_27, .int v_28, .int 1, .ref a_30, .int x_132, .ref a_32, .ref a_33, .int v_34, .int v_35, .ref a_36, .int v_37, .ref a_38, .ref a_39, .int v_40, .int v_41, .ref a_42, .ref a_43, .ref a_44, .int v_45, .ref a_46, .ref a_47, .ref a_48, .ref a_49, .ref a_50, .ref a_51, .ref a_52, .ref a_53, .ref a_54, .int v_55, .int v_56, .ref a_57]) := by rw [ef_141]; exact up_self
                      exact W.vret hx hb hr (fun t ht hW => ⟨⟨f_141, rfl, ⟨hG, hfr0, hrA12, hfA12, (by intro w27 z27 w29 z29 e27 e29 d27 d29; rw [hfo_1] at e27 e29; rw [hfo_142] at d27 d29; obtain rfl := Option.some.inj e27; obtain rfl := Option.some.inj d27; obtain rfl := Option.some.inj e29; obtain rfl := Option.some.inj d29; (try rw [ti_1]) <;> omega)⟩, by rw [ht]; exact hP, va_K.moved hW.alike hK, pl_in hD⟩, hS.F ht⟩) hS.2.2 dX12_finds_129
                  · skip
                    rw [Int32.le_iff_toInt_le] at c_125
                    refine lv_aload_n hx hb dX12_finds_70 rfl (lv_at hl 3 rfl) ?_
                    refine tk_getP (D := (dC, dI)) (ci := 12) (v := .ref a_30) (C := RX12) (T := TX12) (N := 56) hx hb hU inlX12 hown hK hP mo0 hfo_124 rfl 28 (by decide) (hU _ wd_183) (fun _ h9 => h9) rfl dX12_finds_71 ?_
                    refine lv_iload hx hb dX12_finds_74 (lv_at hl 0 rfl) ?_
                    refine lv_aload_n hx hb dX12_finds_76 rfl (lv_at hl 3 rfl) ?_
                    refine tk_getP (D := (dC, dI)) (ci := 12) (v := .ref a_30) (C := RX12) (T := TX12) (N := 56) hx hb hU inlX12 hown hK hP mo0 hfo_124 rfl 28 (by decide) (hU _ wd_183) (fun _ h9 => h9) rfl dX12_finds_77 ?_
                    refine lv_iload hx hb dX12_finds_80 (lv_at hl 0 rfl) ?_
                    refine lv_iconst (v := 1) hx hb dX12_finds_82 (by decide) ?_
                    refine lv_isub hx hb dX12_finds_83 ?_
                    refine lv_topi (fun x_143 ex_143 => ?_)
                    have hx_143 : x_143.toInt = y_121.toInt - 1 := by rw [ex_143, sb_I (by rw [ti_1]; omega) (by rw [ti_1]; omega), ti_1]
                    have bx_143 : (1 ≤ x_143.toInt ∧ x_143.toInt ≤ 199) := by constructor <;> omega
                    obtain ⟨g_145, hfo_144⟩ := un_591 (hG _ ma_30) ka_30
                    refine tk_lldP hx hb hK hP 1 ma_30 hfo_144 rfl (vp_in_iff.mpr (by constructor <;> omega)) dX12_finds_84 ?_
                    refine lv_topl (fun j_146 ej_146 => ?_)
                    refine tk_lstP hx hb hK hP hD hS 1 ma_30 hfo_144 rfl (vp_in_iff.mpr (by constructor <;> omega)) dX12_finds_85 (fun H locs hP hD hS => ?_)
                    obtain ⟨f_148, ef_148⟩ : ∃ y : Nat → va_E, y = va_up f_123 a_30 (.inl (cL, 201, .inr (.inl (vp_updL g_145 (Int32.toNatClampNeg y_121) j_146)))) := ⟨_, rfl⟩
                    have hP : va_P (dC, dI) vwCl (va_pl L f_148) H := by rw [ef_148]; exact hP
                    have hD : va_D (fun q => q ∈ L) (va_pl L f_148) := by rw [ef_148]; exact hD
                    have hG : GI (okc cI cL cZ cR cG cH L kd) kd L f_148 := by rw [ef_148]; exact hG.set a_30 (mk_591 ka_30 ⟨_, rfl⟩)
                    have hfo_149 : f_148 o0 = .inr (12, [.ref a_2, .ref a_3, .ref a_4, .int v_5, .ref a_6, .int v_7, .int v_8, .int v_9, .int v_10, .int v_11, .int v_12, .int v_13, .int v_14, .int v_15, .int v_16, .ref a_17, .ref a_18, .ref a_19, .ref a_20, .ref a_21, .ref a_22, .ref a_23, .ref a_24, .int v_25, .int v_26, .int v_27, .int v_28, .int v_29, .ref a_30, .int v_31, .ref a_32, .ref a_33, .int v_34, .int v_35, .ref a_36, .int v_37, .ref a_38, .ref a_39, .int v_40, .int v_41, .ref a_42, .ref a_43, .ref a_44, .int v_45, .ref a_46, .ref a_47, .ref a_48, .ref a_49, .ref a_50, .ref a_51, .ref a_52, .ref a_53, .ref a_54, .int v_55, .int v_56, .ref a_57]) := by rw [ef_148, up_ne (kd_ne ka_30 ko0 (by decide))]; exact hfo_124
                    have hfr0 : ∀ b, kd b ≠ 12 → kd b ≠ 591 → f_148 b = f b := fun b q12 q591 => (congrFun ef_148 b).trans ((up_ne (fun e9 => q591 (by rw [e9]; exact ka_30))).trans (hfr0 b q12 q591))
                    have hrA12 : ∀ b, kd b = 12 → ∀ j, fldR (f_148 b) j = fldR (f b) j := fun b kb j => (congrArg (fun x => fldR x j) ((congrFun ef_148 b).trans (up_ne (kd_ne ka_30 kb (by decide))))).trans (hrA12 b kb j)
                    have hfA12 : ∀ b, kd b = 12 → ∀ j, j ≠ 27 → j ≠ 29 → fldI (f_148 b) j = fldI (f b) j := fun b kb j n27 n29 => (congrArg (fun x => fldI x j) ((congrFun ef_148 b).trans (up_ne (kd_ne ka_30 kb (by decide))))).trans (hfA12 b kb j n27 n29)
                    have hfo_150 : f_148 a_30 = .inl (cL, 201, .inr (.inl (vp_updL g_145 (Int32.toNatClampNeg y_121) j_146))) := by rw [ef_148]; exact up_self
                    obtain ⟨x_151, ex_151⟩ : ∃ y : Int32, y_121 + (-1) = y := ⟨_, rfl⟩
                    have hx_151 : x_151.toInt = y_121.toInt + (-1) := by rw [← ex_151, ad_I (by rw [ti_m1]; omega) (by rw [ti_m1]; omega), ti_m1]
                    have bx_151 : (1 ≤ x_151.toInt ∧ x_151.toInt ≤ 199) := by constructor <;> omega
                    refine lv_iinc (v := x_151) (lv' := [(5, .int x_151), (4, .int y_64), (2, .long x_58), (0, .ref o0), (1, .int p1)]) hx hb dX12_finds_86 hl (k := 0) rfl ex_151 (by decide) rfl (fun ls hl => ?_)
                    refine lv_goto (tgt := 63) hx hb dX12_finds_89 (by decide) ?_
                    exact ih_hloop_120 x_151 (by constructor <;> omega) f_148 hG _ _ hP hS hD hfr0 hrA12 hfA12 hfo_149 (by omega) ls (lv_sub hl [0, 1, 2, 3, 4] rfl)
              exact hloop_120 201 v_31 (by constructor <;> omega) f hG _ _ hP hS hD hfr0 hrA12 hfA12 hfo_1 (by omega) ls hl
            · skip
              rw [← Int32.toInt_inj, ti_0] at c_114
              exact W.vret hx hb hr (fun t ht hW => ⟨⟨f, rfl, ⟨hG, hfr0, hrA12, hfA12, (by intro w27 z27 w29 z29 e27 e29 d27 d29; rw [hfo_1] at e27 e29; rw [hfo_1] at d27 d29; obtain rfl := Option.some.inj e27; obtain rfl := Option.some.inj d27; obtain rfl := Option.some.inj e29; obtain rfl := Option.some.inj d29; omega)⟩, by rw [ht]; exact hP, va_K.moved hW.alike hK, pl_in hD⟩, hS.F ht⟩) hS.2.2 dX12_finds_56
        · skip
          rw [Int32.le_iff_toInt_le, ti_0] at c_109
          obtain ⟨x_152, ex_152⟩ : ∃ y : Int32, y_64 + (-1) = y := ⟨_, rfl⟩
          have hx_152 : x_152.toInt = y_64.toInt + (-1) := by rw [← ex_152, ad_I (by rw [ti_m1]; omega) (by rw [ti_m1]; omega), ti_m1]
          have bx_152 : (0 ≤ x_152.toInt ∧ x_152.toInt ≤ 199) := by constructor <;> omega
          refine lv_iinc (v := x_152) (lv' := [(4, .int x_152), (2, .long x_58), (0, .ref o0), (1, .int p1)]) hx hb dX12_finds_31 hl (k := 0) rfl ex_152 (by decide) rfl (fun ls hl => ?_)
          refine lv_goto (tgt := 12) hx hb dX12_finds_34 (by decide) ?_
          exact ih_hloop_63 x_152 (by constructor <;> omega) (by omega) ls (lv_sub hl [0, 1, 2, 3] rfl)
  exact hloop_63 201 v_31 (by constructor <;> omega) (by omega) ls hl
