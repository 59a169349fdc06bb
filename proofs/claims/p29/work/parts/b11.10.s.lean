set_option maxHeartbeats 8000000 in
set_option maxRecDepth 100000 in
theorem s_X12_numberOf_k12 (l : Launch) (D : va_G) (cI cL cZ cR cG cH : ClassId) (Z : zT) (kd : Nat → Nat) (L : List Nat) (f : Nat → va_E) (hG : GI (okc cI cL cZ cR cG cH L kd) kd L f) (o0 : Nat) (mo0 : o0 ∈ L) (ko0 : kd o0 = 12) (p1 : Int32) (bp1 : (0 ≤ p1.toInt ∧ p1.toInt ≤ 4)) : mPI l D cI cL cZ cR cG cH Z yX12_numberOf cX12_numberOf 4 (some .int) 0 0 [.ref o0, .int p1] L f (fun (r : Int32) (f9 : Nat → va_E) => f = f9 ∧ (0 ≤ r.toInt ∧ r.toInt ≤ 6560)) := by
  obtain ⟨dC, dI⟩ := D
  refine Met.ofW (cc := cX12_numberOf) (maxL := 4) (ret := (some .int)) (by decide) rfl ?_
  intro p e s m args below meth c s₁ B hml hv
  obtain ⟨rfl, hP, hK, hD0, hN, hZ⟩ := hv
  have hx := B.exec
  have hb := B.bytes
  have hr := B.returns
  have hU : ∀ w ∈ wsU, w.before _ s = true := fun w h => atoms_spec (ws := wU yX12_numberOf cX12_numberOf 4 (some .int)) B.pre w (List.mem_cons_of_mem _ h)
  have hown : s.vm.findClass RX12 = some m.cls := findClass_of_methodNamed B.named
  have hlocks := B.notSynchronized
  have hD := pl_in hD0
  have hS : va_S (fun q => q ∈ L) s.heap s.heap [] := va_S.rf
  have hl := lv_entry ([.ref o0, .int p1]) (n := 4) (Nat.le_of_ble_eq_true rfl)
  rw [lg_entry_eq]
  generalize (lg_sl ([.ref o0, .int p1]) ++ List.replicate (4 - (lg_sl ([.ref o0, .int p1])).length) Slot.unset).toArray = ls at hl ⊢
  have hl : lv_has ls 4 [(0, .ref o0), (1, .int p1)] := hl
  refine lv_iconst (v := 0) hx hb dX12_numberOf_0 (by decide) ?_
  refine lv_istore_n (lv' := [(2, .int 0), (0, .ref o0), (1, .int p1)]) hx hb dX12_numberOf_1 rfl hl (by decide) rfl (fun ls hl => ?_)
  refine lv_iconst (v := 0) hx hb dX12_numberOf_2 (by decide) ?_
  refine lv_istore_n (lv' := [(3, .int 0), (2, .int 0), (0, .ref o0), (1, .int p1)]) hx hb dX12_numberOf_3 rfl hl (by decide) rfl (fun ls hl => ?_)
  have hloop_4 : ∀ (n : Nat), ∀ (y_5 : Int32), (0 ≤ y_5.toInt ∧ y_5.toInt ≤ 4) → ∀ (y_6 : Int32), (0 ≤ y_6.toInt ∧ y_6.toInt ≤ 6560) → ((y_5.toInt = 0 ∧ y_6.toInt = 0) ∨ (y_5.toInt = 1 ∧ y_6.toInt ≤ 8) ∨ (y_5.toInt = 2 ∧ y_6.toInt ≤ 80) ∨ (y_5.toInt = 3 ∧ y_6.toInt ≤ 728) ∨ (y_5.toInt = 4 ∧ y_6.toInt ≤ 6560)) → 4 - y_5.toInt < (n : Int) → ∀ (ls : Array Slot), lv_has ls 4 [(3, .int y_5), (2, .int y_6), (0, .ref o0), (1, .int p1)] → W p l e (headSpec (wU yX12_numberOf cX12_numberOf 4 (some .int)) { frames := 0, cells := 0, slots := 0, locals := 0 }).room s m [.ref o0, .int p1].toArray below meth c s.heap [] 0 0 (MQ below (va_Qi (fun (r : Int32) (f9 : Nat → va_E) => f = f9 ∧ (0 ≤ r.toInt ∧ r.toInt ≤ 6560)) (qP (dC, dI) cI cL cZ cR cG cH L) (fun q => q ∈ L)) [.ref o0, .int p1].toArray s 0 0 (fun q => q ∈ L)) (F0 m 4 ls []) := by
    intro n
    induction n with
    | zero => intro y_5 by_5 y_6 by_6 hrelhloop_4_0 hmuhloop_4 ls hl; exfalso; omega
    | succ n ih_hloop_4 =>
      intro y_5 by_5 y_6 by_6 hrelhloop_4_0 hmuhloop_4 ls hl
      refine lv_iload_n hx hb dX12_numberOf_4 rfl (lv_at hl 0 rfl) ?_
      refine lv_iload_n hx hb dX12_numberOf_5 rfl (lv_at hl 3 rfl) ?_
      refine lv_icmp_ge (tgt := 27) hx hb dX12_numberOf_6 (by decide) (fun c_7 => ?_) (fun c_7 => ?_)
      · skip
        rw [Int32.le_iff_toInt_le] at c_7
        refine lv_iload_n hx hb dX12_numberOf_27 rfl (lv_at hl 1 rfl) ?_
        exact W.iret (v := y_6) hx hb hr (fun t ht hW => ⟨⟨y_6, f, rfl, ⟨rfl, (by constructor <;> omega)⟩, by rw [ht]; exact hP, va_K.moved hW.alike hK, pl_in hD⟩, hS.F ht⟩) hS.2.2 dX12_numberOf_28
      · skip
        rw [Int32.le_iff_toInt_le] at c_7
        refine lv_bipush (v := 9) hx hb dX12_numberOf_9 (by decide) ?_
        refine lv_iload_n hx hb dX12_numberOf_11 rfl (lv_at hl 1 rfl) ?_
        refine lv_imul hx hb dX12_numberOf_12 ?_
        refine lv_topi (fun x_8 ex_8 => ?_)
        have hx_8 : x_8.toInt = 9 * y_6.toInt := by rw [ex_8, ml_I (by rw [ti_9]; omega) (by rw [ti_9]; omega), ti_9]
        have bx_8 : (0 ≤ x_8.toInt ∧ x_8.toInt ≤ 59040) := by constructor <;> omega
        refine lv_aload_n hx hb dX12_numberOf_13 rfl (lv_at hl 2 rfl) ?_
        obtain ⟨a_9, a_10, a_11, v_12, a_13, v_14, v_15, v_16, v_17, v_18, v_19, v_20, v_21, v_22, v_23, a_24, a_25, a_26, a_27, a_28, a_29, a_30, a_31, v_32, v_33, v_34, v_35, v_36, a_37, v_38, a_39, a_40, v_41, v_42, a_43, v_44, a_45, a_46, v_47, v_48, a_49, a_50, a_51, v_52, a_53, a_54, a_55, a_56, a_57, a_58, a_59, a_60, a_61, v_62, v_63, a_64, hfo_65, fa_66⟩ := un12 (hG _ mo0) ko0
        obtain ⟨ma_31, ka_31⟩ := fa12_22 fa_66
        refine tk_getP (D := (dC, dI)) (ci := 12) (v := .ref a_31) (C := RX12) (T := TX12) (N := 56) hx hb hU inlX12 hown hK hP mo0 hfo_65 rfl 22 (by decide) (hU _ wd_182) (fun _ h9 => h9) rfl dX12_numberOf_14 ?_
        refine lv_iload_n hx hb dX12_numberOf_17 rfl (lv_at hl 0 rfl) ?_
        obtain ⟨g_68, hfo_67, hbg_68⟩ := un_590 (hG _ ma_31) ka_31
        refine tk_ildP hx hb hK hP 0 ma_31 hfo_67 rfl (vp_in_iff.mpr (by constructor <;> omega)) dX12_numberOf_18 ?_
        refine lv_topi (fun x_69 ex_69 => ?_)
        have bx_69 : (0 ≤ x_69.toInt ∧ x_69.toInt ≤ 8) := by rw [ex_69]; exact hbg_68 _
        refine lv_iadd hx hb dX12_numberOf_19 ?_
        refine lv_topi (fun x_70 ex_70 => ?_)
        have hx_70 : x_70.toInt = x_8.toInt + x_69.toInt := by rw [ex_70, ad_I (by omega) (by omega)]
        have bx_70 : (0 ≤ x_70.toInt ∧ x_70.toInt ≤ 59048) := by constructor <;> omega
        have hclc_71 : (0 ≤ x_70.toInt ∧ x_70.toInt ≤ 6560) := by constructor <;> omega
        refine lv_istore_n (lv' := [(2, .int x_70), (3, .int y_5), (0, .ref o0), (1, .int p1)]) hx hb dX12_numberOf_20 rfl hl (by decide) rfl (fun ls hl => ?_)
        obtain ⟨x_72, ex_72⟩ : ∃ y : Int32, y_5 + 1 = y := ⟨_, rfl⟩
        have hx_72 : x_72.toInt = y_5.toInt + 1 := by rw [← ex_72, ad_I (by rw [ti_1]; omega) (by rw [ti_1]; omega), ti_1]
        have bx_72 : (1 ≤ x_72.toInt ∧ x_72.toInt ≤ 4) := by constructor <;> omega
        refine lv_iinc (v := x_72) (lv' := [(3, .int x_72), (2, .int x_70), (0, .ref o0), (1, .int p1)]) hx hb dX12_numberOf_21 hl (k := 1) rfl ex_72 (by decide) rfl (fun ls hl => ?_)
        refine lv_goto (tgt := 4) hx hb dX12_numberOf_24 (by decide) ?_
        exact ih_hloop_4 x_72 (by constructor <;> omega) x_70 (by constructor <;> omega) (by omega) (by omega) ls (lv_sub hl [0, 1, 2, 3] rfl)
  exact hloop_4 5 0 (by decide) 0 (by decide) (by (try rw [ti_0]) <;> omega) (by (try rw [ti_0]) <;> omega) ls hl
set_option maxHeartbeats 8000000 in
set_option maxRecDepth 100000 in
theorem s_X12_padded_k12 (l : Launch) (D : va_G) (cI cL cZ cR cG cH : ClassId) (Z : zT) (kd : Nat → Nat) (L : List Nat) (f : Nat → va_E) (hG : GI (okc cI cL cZ cR cG cH L kd) kd L f) (o0 : Nat) (mo0 : o0 ∈ L) (ko0 : kd o0 = 12) (p1 : Int32) (bp1 : (0 ≤ p1.toInt ∧ p1.toInt ≤ 13)) : mPL l D cI cL cZ cR cG cH Z yX12_padded cX12_padded 5 (some .long) 0 0 [.ref o0, .int p1] L f (fun (r : Int64) (f9 : Nat → va_E) => f = f9) := by
  obtain ⟨dC, dI⟩ := D
  refine Met.ofW (cc := cX12_padded) (maxL := 5) (ret := (some .long)) (by decide) rfl ?_
  intro p e s m args below meth c s₁ B hml hv
  obtain ⟨rfl, hP, hK, hD0, hN, hZ⟩ := hv
  have hx := B.exec
  have hb := B.bytes
  have hr := B.returns
  have hU : ∀ w ∈ wsU, w.before _ s = true := fun w h => atoms_spec (ws := wU yX12_padded cX12_padded 5 (some .long)) B.pre w (List.mem_cons_of_mem _ h)
  have hown : s.vm.findClass RX12 = some m.cls := findClass_of_methodNamed B.named
  have hlocks := B.notSynchronized
  have hD := pl_in hD0
  have hS : va_S (fun q => q ∈ L) s.heap s.heap [] := va_S.rf
  have hl := lv_entry ([.ref o0, .int p1]) (n := 5) (Nat.le_of_ble_eq_true rfl)
  rw [lg_entry_eq]
  generalize (lg_sl ([.ref o0, .int p1]) ++ List.replicate (5 - (lg_sl ([.ref o0, .int p1])).length) Slot.unset).toArray = ls at hl ⊢
  have hl : lv_has ls 5 [(0, .ref o0), (1, .int p1)] := hl
  refine lv_lconst (v := 0) hx hb dX12_padded_0 (by decide) ?_
  refine lv_lstore_n (lv' := [(2, .long 0), (0, .ref o0), (1, .int p1)]) hx hb dX12_padded_1 rfl hl (by decide) rfl (fun ls hl => ?_)
  refine lv_iconst (v := 0) hx hb dX12_padded_2 (by decide) ?_
  refine lv_istore (lv' := [(4, .int 0), (2, .long 0), (0, .ref o0), (1, .int p1)]) hx hb dX12_padded_3 hl (by decide) rfl (fun ls hl => ?_)
  have hloop_10 : ∀ (n : Nat), ∀ (y_11 : Int32), (0 ≤ y_11.toInt ∧ y_11.toInt ≤ 10) → ∀ (y_12 : Int64), 10 - y_11.toInt < (n : Int) → ∀ (ls : Array Slot), lv_has ls 5 [(4, .int y_11), (2, .long y_12), (0, .ref o0), (1, .int p1)] → W p l e (headSpec (wU yX12_padded cX12_padded 5 (some .long)) { frames := 0, cells := 0, slots := 0, locals := 0 }).room s m [.ref o0, .int p1].toArray below meth c s.heap [] 0 0 (MQ below (va_Ql (fun (r : Int64) (f9 : Nat → va_E) => f = f9) (qP (dC, dI) cI cL cZ cR cG cH L) (fun q => q ∈ L)) [.ref o0, .int p1].toArray s 0 0 (fun q => q ∈ L)) (F0 m 5 ls []) := by
    intro n
    induction n with
    | zero => intro y_11 by_11 y_12 hmuhloop_10 ls hl; exfalso; omega
    | succ n ih_hloop_10 =>
      intro y_11 by_11 y_12 hmuhloop_10 ls hl
      refine lv_iload hx hb dX12_padded_5 (lv_at hl 0 rfl) ?_
      refine lv_bipush (v := 10) hx hb dX12_padded_7 (by decide) ?_
      refine lv_icmp_ge (tgt := 43) hx hb dX12_padded_9 (by decide) (fun c_13 => ?_) (fun c_13 => ?_)
      · skip
        rw [Int32.le_iff_toInt_le, ti_10] at c_13
        refine lv_lload_n hx hb dX12_padded_43 rfl (lv_at hl 1 rfl) ?_
        exact W.lret (v := y_12) hx hb hr (fun t ht hW => ⟨⟨y_12, f, rfl, rfl, by rw [ht]; exact hP, va_K.moved hW.alike hK, pl_in hD⟩, hS.F ht⟩) hS.2.2 dX12_padded_44
      · skip
        rw [Int32.le_iff_toInt_le, ti_10] at c_13
        refine lv_ldc2 (v := 9) hx hb hown (hU _ wd_915) dX12_padded_12 ?_
        refine lv_lload_n hx hb dX12_padded_15 rfl (lv_at hl 1 rfl) ?_
        refine lv_lmul hx hb dX12_padded_16 ?_
        refine lv_topl (fun j_14 ej_14 => ?_)
        refine lv_iload hx hb dX12_padded_17 (lv_at hl 0 rfl) ?_
        refine lv_iload_n hx hb dX12_padded_19 rfl (lv_at hl 3 rfl) ?_
        have hcut_16 : ∀ (y_15 : Int32), (0 ≤ y_15.toInt ∧ y_15.toInt ≤ 8) → ∀ (ls : Array Slot), lv_has ls 5 [(4, .int y_11), (2, .long y_12), (0, .ref o0), (1, .int p1)] → W p l e (headSpec (wU yX12_padded cX12_padded 5 (some .long)) { frames := 0, cells := 0, slots := 0, locals := 0 }).room s m [.ref o0, .int p1].toArray below meth c s.heap [] 0 0 (MQ below (va_Ql (fun (r : Int64) (f9 : Nat → va_E) => f = f9) (qP (dC, dI) cI cL cZ cR cG cH L) (fun q => q ∈ L)) [.ref o0, .int p1].toArray s 0 0 (fun q => q ∈ L)) (F0 m 34 ls [.int y_15, .long j_14]) := by
          intro y_15 by_15 ls hl
          refine lv_i2l hx hb dX12_padded_34 rfl ?_
          refine lv_topl (fun j_17 ej_17 => ?_)
          refine lv_ladd hx hb dX12_padded_35 ?_
          refine lv_topl (fun j_18 ej_18 => ?_)
          refine lv_lstore_n (lv' := [(2, .long j_18), (4, .int y_11), (0, .ref o0), (1, .int p1)]) hx hb dX12_padded_36 rfl hl (by decide) rfl (fun ls hl => ?_)
          obtain ⟨x_19, ex_19⟩ : ∃ y : Int32, y_11 + 1 = y := ⟨_, rfl⟩
          have hx_19 : x_19.toInt = y_11.toInt + 1 := by rw [← ex_19, ad_I (by rw [ti_1]; omega) (by rw [ti_1]; omega), ti_1]
          have bx_19 : (1 ≤ x_19.toInt ∧ x_19.toInt ≤ 10) := by constructor <;> omega
          refine lv_iinc (v := x_19) (lv' := [(4, .int x_19), (2, .long j_18), (0, .ref o0), (1, .int p1)]) hx hb dX12_padded_37 hl (k := 1) rfl ex_19 (by decide) rfl (fun ls hl => ?_)
          refine lv_goto (tgt := 5) hx hb dX12_padded_40 (by decide) ?_
          exact ih_hloop_10 x_19 (by constructor <;> omega) (j_18) (by omega) ls (lv_sub hl [0, 1, 2, 3] rfl)
        refine lv_icmp_ge (tgt := 33) hx hb dX12_padded_20 (by decide) (fun c_20 => ?_) (fun c_20 => ?_)
        · skip
          rw [Int32.le_iff_toInt_le] at c_20
          refine lv_iconst (v := 0) hx hb dX12_padded_33 (by decide) ?_
          exact hcut_16 0 (by decide) ls (lv_sub hl [0, 1, 2, 3] rfl)
        · skip
          rw [Int32.le_iff_toInt_le] at c_20
          refine lv_aload_n hx hb dX12_padded_23 rfl (lv_at hl 2 rfl) ?_
          obtain ⟨a_21, a_22, a_23, v_24, a_25, v_26, v_27, v_28, v_29, v_30, v_31, v_32, v_33, v_34, v_35, a_36, a_37, a_38, a_39, a_40, a_41, a_42, a_43, v_44, v_45, v_46, v_47, v_48, a_49, v_50, a_51, a_52, v_53, v_54, a_55, v_56, a_57, a_58, v_59, v_60, a_61, a_62, a_63, v_64, a_65, a_66, a_67, a_68, a_69, a_70, a_71, a_72, a_73, v_74, v_75, a_76, hfo_77, fa_78⟩ := un12 (hG _ mo0) ko0
          obtain ⟨ma_43, ka_43⟩ := fa12_22 fa_78
          refine tk_getP (D := (dC, dI)) (ci := 12) (v := .ref a_43) (C := RX12) (T := TX12) (N := 56) hx hb hU inlX12 hown hK hP mo0 hfo_77 rfl 22 (by decide) (hU _ wd_182) (fun _ h9 => h9) rfl dX12_padded_24 ?_
          refine lv_iload hx hb dX12_padded_27 (lv_at hl 0 rfl) ?_
          obtain ⟨g_80, hfo_79, hbg_80⟩ := un_590 (hG _ ma_43) ka_43
          refine tk_ildP hx hb hK hP 0 ma_43 hfo_79 rfl (vp_in_iff.mpr (by constructor <;> omega)) dX12_padded_29 ?_
          refine lv_topi (fun x_81 ex_81 => ?_)
          have bx_81 : (0 ≤ x_81.toInt ∧ x_81.toInt ≤ 8) := by rw [ex_81]; exact hbg_80 _
          refine lv_goto (tgt := 34) hx hb dX12_padded_30 (by decide) ?_
          exact hcut_16 x_81 (by constructor <;> omega) ls (lv_sub hl [0, 1, 2, 3] rfl)
  exact hloop_10 11 0 (by decide) (0) (by (try rw [ti_0]) <;> omega) ls hl
set_option maxHeartbeats 8000000 in
set_option maxRecDepth 100000 in
theorem s_X12_finds_k12 (l : Launch) (D : va_G) (cI cL cZ cR cG cH : ClassId) (Z : zT) (kd : Nat → Nat) (L : List Nat) (f : Nat → va_E) (hG : GI (okc cI cL cZ cR cG cH L kd) kd L f) (o0 : Nat) (mo0 : o0 ∈ L) (ko0 : kd o0 = 12) (p1 : Int32) (bp1 : (0 ≤ p1.toInt ∧ p1.toInt ≤ 13)) (hpreo0 : ∀ (w29 : Int32), fldI (f o0) 29 = some w29 → w29.toInt ≤ 200) : mPV l D cI cL cZ cR cG cH Z yX12_finds cX12_finds 6 none 1 24 [.ref o0, .int p1] L f (fun (f9 : Nat → va_E) => GI (okc cI cL cZ cR cG cH L kd) kd L f9 ∧ (∀ b, kd b ≠ 12 → kd b ≠ 591 → f9 b = f b) ∧ (∀ b, kd b = 12 → ∀ j, fldR (f9 b) j = fldR (f b) j) ∧ (∀ b, kd b = 12 → ∀ j, j ≠ 27 → j ≠ 29 → fldI (f9 b) j = fldI (f b) j) ∧ (∀ (w27 z27 : Int32) (w29 z29 : Int32), fldI (f o0) 27 = some w27 → fldI (f o0) 29 = some w29 → fldI (f9 o0) 27 = some z27 → fldI (f9 o0) 29 = some z29 → z27.toInt = 1 ∨ z29.toInt ≤ 200)) := by
  obtain ⟨dC, dI⟩ := D
  refine Met.ofW (cc := cX12_finds) (maxL := 6) (ret := none) (by decide) rfl ?_
  intro p e s m args below meth c s₁ B hml hv
  obtain ⟨rfl, hP, hK, hD0, hN, hZ⟩ := hv
  have hx := B.exec
  have hb := B.bytes
  have hr := B.returns
  have hU : ∀ w ∈ wsU, w.before _ s = true := fun w h => atoms_spec (ws := wU yX12_finds cX12_finds 6 none) B.pre w (List.mem_cons_of_mem _ h)
  have hown : s.vm.findClass RX12 = some m.cls := findClass_of_methodNamed B.named
  have hlocks := B.notSynchronized
  have hD := pl_in hD0
  have hS : va_S (fun q => q ∈ L) s.heap s.heap [] := va_S.rf
  have hl := lv_entry ([.ref o0, .int p1]) (n := 6) (Nat.le_of_ble_eq_true rfl)
  rw [lg_entry_eq]
  generalize (lg_sl ([.ref o0, .int p1]) ++ List.replicate (6 - (lg_sl ([.ref o0, .int p1])).length) Slot.unset).toArray = ls at hl ⊢
  have hl : lv_has ls 6 [(0, .ref o0), (1, .int p1)] := hl
  have hfr0 : ∀ b, kd b ≠ 12 → kd b ≠ 591 → f b = f b := fun _ _ _ => rfl
  have hrA12 : ∀ b, kd b = 12 → ∀ j, fldR (f b) j = fldR (f b) j := fun _ _ _ => rfl
  have hfA12 : ∀ b, kd b = 12 → ∀ j, j ≠ 27 → j ≠ 29 → fldI (f b) j = fldI (f b) j := fun _ _ _ _ _ => rfl
  obtain ⟨a_1, a_2, a_3, v_4, a_5, v_6, v_7, v_8, v_9, v_10, v_11, v_12, v_13, v_14, v_15, a_16, a_17, a_18, a_19, a_20, a_21, a_22, a_23, v_24, v_25, v_26, v_27, v_28, a_29, v_30, a_31, a_32, v_33, v_34, a_35, v_36, a_37, a_38, v_39, v_40, a_41, a_42, a_43, v_44, a_45, a_46, a_47, a_48, a_49, a_50, a_51, a_52, a_53, v_54, v_55, a_56, hfo_57, fa_58⟩ := un12 (hG _ mo0) ko0
  obtain ⟨ma_29, ka_29⟩ := fa12_28 fa_58
  have bv_30 : (0 ≤ v_30.toInt ∧ v_30.toInt ≤ 201) := fa12_29 fa_58
  have hpo0 := hpreo0 v_30 (by rw [hfo_57]; rfl)
  refine lv_aload_n hx hb dX12_finds_0 rfl (lv_at hl 0 rfl) ?_
  refine lv_iload_n hx hb dX12_finds_1 rfl (lv_at hl 1 rfl) ?_
  refine tk_VlP (As := [.int p1]) (rest := []) (n := 1) hx hb hml hown hU hN hZ (s_X12_padded_k12 l (dC, dI) cI cL cZ cR cG cH Z kd L f hG o0 mo0 ko0 p1 (by constructor <;> omega)) wd_911 wd_912 wd_913 wd_5 wd_914 (by decide +kernel) ⟨Nat.le_of_ble_eq_true rfl, Nat.le_of_ble_eq_true rfl⟩ hK hP hD hS mo0 hfo_57 12 rfl rfl rfl hl.1 rfl (Nat.le_of_ble_eq_true rfl) dX12_finds_2 ⟨Nat.le_of_ble_eq_true rfl, Nat.le_of_ble_eq_true rfl⟩ (fun x_59 f_60 H locs hw hP hD hS => ?_)
  obtain rfl := hw
  refine lv_lstore_n (lv' := [(2, .long x_59), (0, .ref o0), (1, .int p1)]) hx hb dX12_finds_5 rfl hl (by decide) rfl (fun ls hl => ?_)
  refine lv_aload_n hx hb dX12_finds_6 rfl (lv_at hl 1 rfl) ?_
  refine tk_getP (D := (dC, dI)) (ci := 12) (v := .int v_30) (C := RX12) (T := TX12) (N := 56) hx hb hU inlX12 hown hK hP mo0 hfo_57 rfl 29 (by decide) (hU _ wd_570) (fun _ h9 => h9) rfl dX12_finds_7 ?_
  refine lv_istore (lv' := [(4, .int v_30), (2, .long x_59), (0, .ref o0), (1, .int p1)]) hx hb dX12_finds_10 hl (by decide) rfl (fun ls hl => ?_)
  have hloop_64 : ∀ (n : Nat), ∀ (y_65 : Int32), (0 ≤ y_65.toInt ∧ y_65.toInt ≤ 200) → y_65.toInt - 0 < (n : Int) → ∀ (ls : Array Slot), lv_has ls 6 [(4, .int y_65), (2, .long x_59), (0, .ref o0), (1, .int p1)] → W p l e (headSpec (wU yX12_finds cX12_finds 6 none) { frames := 1, cells := 0, slots := 0, locals := 24 }).room s m [.ref o0, .int p1].toArray below meth c H locs 0 0 (MQ below (va_Qv (fun (f9 : Nat → va_E) => GI (okc cI cL cZ cR cG cH L kd) kd L f9 ∧ (∀ b, kd b ≠ 12 → kd b ≠ 591 → f9 b = f b) ∧ (∀ b, kd b = 12 → ∀ j, fldR (f9 b) j = fldR (f b) j) ∧ (∀ b, kd b = 12 → ∀ j, j ≠ 27 → j ≠ 29 → fldI (f9 b) j = fldI (f b) j) ∧ (∀ (w27 z27 : Int32) (w29 z29 : Int32), fldI (f o0) 27 = some w27 → fldI (f o0) 29 = some w29 → fldI (f9 o0) 27 = some z27 → fldI (f9 o0) 29 = some z29 → z27.toInt = 1 ∨ z29.toInt ≤ 200)) (qP (dC, dI) cI cL cZ cR cG cH L) (fun q => q ∈ L)) [.ref o0, .int p1].toArray s 0 0 (fun q => q ∈ L)) (F0 m 12 ls []) := by
    intro n
    induction n with
    | zero => intro y_65 by_65 hmuhloop_64 ls hl; exfalso; omega
    | succ n ih_hloop_64 =>
      intro y_65 by_65 hmuhloop_64 ls hl
      refine lv_iload hx hb dX12_finds_12 (lv_at hl 0 rfl) ?_
      refine lv_if_le (tgt := 37) hx hb dX12_finds_14 (by decide) (fun c_66 => ?_) (fun c_66 => ?_)
      · skip
        rw [Int32.le_iff_toInt_le, ti_0] at c_66
        refine lv_iload hx hb dX12_finds_37 (lv_at hl 0 rfl) ?_
        refine lv_if_le (tgt := 57) hx hb dX12_finds_39 (by decide) (fun c_67 => ?_) (fun c_67 => ?_)
        · skip
          rw [Int32.le_iff_toInt_le, ti_0] at c_67
          refine lv_aload_n hx hb dX12_finds_57 rfl (lv_at hl 2 rfl) ?_
          refine tk_getP (D := (dC, dI)) (ci := 12) (v := .int v_30) (C := RX12) (T := TX12) (N := 56) hx hb hU inlX12 hown hK hP mo0 hfo_57 rfl 29 (by decide) (hU _ wd_570) (fun _ h9 => h9) rfl dX12_finds_58 ?_
          refine lv_istore (lv' := [(5, .int v_30), (4, .int y_65), (2, .long x_59), (0, .ref o0), (1, .int p1)]) hx hb dX12_finds_61 hl (by decide) rfl (fun ls hl => ?_)
          have hloop_73 : ∀ (n : Nat), ∀ (y_74 : Int32), (0 ≤ y_74.toInt ∧ y_74.toInt ≤ 200) → ∀ (f_76 : Nat → va_E), GI (okc cI cL cZ cR cG cH L kd) kd L f_76 → ∀ (H : Heap) (locs : List Loc), va_P (dC, dI) vwCl (va_pl L f_76) H → va_S (fun q => q ∈ L) s.heap H locs → va_D (fun q => q ∈ L) (va_pl L f_76) → (∀ b, kd b ≠ 12 → kd b ≠ 591 → f_76 b = f b) → (∀ b, kd b = 12 → ∀ j, fldR (f_76 b) j = fldR (f b) j) → (∀ b, kd b = 12 → ∀ j, j ≠ 27 → j ≠ 29 → fldI (f_76 b) j = fldI (f b) j) → (f_76 o0 = .inr (12, [.ref a_1, .ref a_2, .ref a_3, .int v_4, .ref a_5, .int v_6, .int v_7, .int v_8, .int v_9, .int v_10, .int v_11, .int v_12, .int v_13, .int v_14, .int v_15, .ref a_16, .ref a_17, .ref a_18, .ref a_19, .ref a_20, .ref a_21, .ref a_22, .ref a_23, .int v_24, .int v_25, .int v_26, .int v_27, .int v_28, .ref a_29, .int v_30, .ref a_31, .ref a_32, .int v_33, .int v_34, .ref a_35, .int v_36, .ref a_37, .ref a_38, .int v_39, .int v_40, .ref a_41, .ref a_42, .ref a_43, .int v_44, .ref a_45, .ref a_46, .ref a_47, .ref a_48, .ref a_49, .ref a_50, .ref a_51, .ref a_52, .ref a_53, .int v_54, .int v_55, .ref a_56])) → y_74.toInt - 0 < (n : Int) → ∀ (ls : Array Slot), lv_has ls 6 [(5, .int y_74), (4, .int y_65), (2, .long x_59), (0, .ref o0), (1, .int p1)] → W p l e (headSpec (wU yX12_finds cX12_finds 6 none) { frames := 1, cells := 0, slots := 0, locals := 24 }).room s m [.ref o0, .int p1].toArray below meth c H locs 0 0 (MQ below (va_Qv (fun (f9 : Nat → va_E) => GI (okc cI cL cZ cR cG cH L kd) kd L f9 ∧ (∀ b, kd b ≠ 12 → kd b ≠ 591 → f9 b = f b) ∧ (∀ b, kd b = 12 → ∀ j, fldR (f9 b) j = fldR (f b) j) ∧ (∀ b, kd b = 12 → ∀ j, j ≠ 27 → j ≠ 29 → fldI (f9 b) j = fldI (f b) j) ∧ (∀ (w27 z27 : Int32) (w29 z29 : Int32), fldI (f o0) 27 = some w27 → fldI (f o0) 29 = some w29 → fldI (f9 o0) 27 = some z27 → fldI (f9 o0) 29 = some z29 → z27.toInt = 1 ∨ z29.toInt ≤ 200)) (qP (dC, dI) cI cL cZ cR cG cH L) (fun q => q ∈ L)) [.ref o0, .int p1].toArray s 0 0 (fun q => q ∈ L)) (F0 m 63 ls []) := by
            intro n
            induction n with
            | zero => intro y_74 by_74 f_76 hG H locs hP hS hD hfr0 hrA12 hfA12 hfo_77 hmuhloop_73 ls hl; exfalso; omega
            | succ n ih_hloop_73 =>
              intro y_74 by_74 f_76 hG H locs hP hS hD hfr0 hrA12 hfA12 hfo_77 hmuhloop_73 ls hl
              refine lv_iload hx hb dX12_finds_63 (lv_at hl 0 rfl) ?_
              refine lv_iload hx hb dX12_finds_65 (lv_at hl 1 rfl) ?_
              refine lv_icmp_le (tgt := 92) hx hb dX12_finds_67 (by decide) (fun c_78 => ?_) (fun c_78 => ?_)
              · skip
                rw [Int32.le_iff_toInt_le] at c_78
                refine lv_aload_n hx hb dX12_finds_92 rfl (lv_at hl 3 rfl) ?_
                refine tk_getP (D := (dC, dI)) (ci := 12) (v := .ref a_29) (C := RX12) (T := TX12) (N := 56) hx hb hU inlX12 hown hK hP mo0 hfo_77 rfl 28 (by decide) (hU _ wd_183) (fun _ h9 => h9) rfl dX12_finds_93 ?_
                refine lv_iload hx hb dX12_finds_96 (lv_at hl 1 rfl) ?_
                refine lv_lload_n hx hb dX12_finds_98 rfl (lv_at hl 2 rfl) ?_
                obtain ⟨g_80, hfo_79⟩ := un_591 (hG _ ma_29) ka_29
                refine tk_lstP hx hb hK hP hD hS 1 ma_29 hfo_79 rfl (vp_in_iff.mpr (by constructor <;> omega)) dX12_finds_99 (fun H locs hP hD hS => ?_)
                obtain ⟨f_82, ef_82⟩ : ∃ y : Nat → va_E, y = va_up f_76 a_29 (.inl (cL, 201, .inr (.inl (vp_updL g_80 (Int32.toNatClampNeg y_65) x_59)))) := ⟨_, rfl⟩
                have hP : va_P (dC, dI) vwCl (va_pl L f_82) H := by rw [ef_82]; exact hP
                have hD : va_D (fun q => q ∈ L) (va_pl L f_82) := by rw [ef_82]; exact hD
                have hG : GI (okc cI cL cZ cR cG cH L kd) kd L f_82 := by rw [ef_82]; exact hG.set a_29 (mk_591 ka_29 ⟨_, rfl⟩)
                have hfo_83 : f_82 o0 = .inr (12, [.ref a_1, .ref a_2, .ref a_3, .int v_4, .ref a_5, .int v_6, .int v_7, .int v_8, .int v_9, .int v_10, .int v_11, .int v_12, .int v_13, .int v_14, .int v_15, .ref a_16, .ref a_17, .ref a_18, .ref a_19, .ref a_20, .ref a_21, .ref a_22, .ref a_23, .int v_24, .int v_25, .int v_26, .int v_27, .int v_28, .ref a_29, .int v_30, .ref a_31, .ref a_32, .int v_33, .int v_34, .ref a_35, .int v_36, .ref a_37, .ref a_38, .int v_39, .int v_40, .ref a_41, .ref a_42, .ref a_43, .int v_44, .ref a_45, .ref a_46, .ref a_47, .ref a_48, .ref a_49, .ref a_50, .ref a_51, .ref a_52, .ref a_53, .int v_54, .int v_55, .ref a_56]) := by rw [ef_82, up_ne (kd_ne ka_29 ko0 (by decide))]; exact hfo_77
                have hfr0 : ∀ b, kd b ≠ 12 → kd b ≠ 591 → f_82 b = f b := fun b q12 q591 => (congrFun ef_82 b).trans ((up_ne (fun e9 => q591 (by rw [e9]; exact ka_29))).trans (hfr0 b q12 q591))
                have hrA12 : ∀ b, kd b = 12 → ∀ j, fldR (f_82 b) j = fldR (f b) j := fun b kb j => (congrArg (fun x => fldR x j) ((congrFun ef_82 b).trans (up_ne (kd_ne ka_29 kb (by decide))))).trans (hrA12 b kb j)
                have hfA12 : ∀ b, kd b = 12 → ∀ j, j ≠ 27 → j ≠ 29 → fldI (f_82 b) j = fldI (f b) j := fun b kb j n27 n29 => (congrArg (fun x => fldI x j) ((congrFun ef_82 b).trans (up_ne (kd_ne ka_29 kb (by decide))))).trans (hfA12 b kb j n27 n29)
                have hfo_84 : f_82 a_29 = .inl (cL, 201, .inr (.inl (vp_updL g_80 (Int32.toNatClampNeg y_65) x_59))) := by rw [ef_82]; exact up_self
                refine lv_aload_n hx hb dX12_finds_100 rfl (lv_at hl 3 rfl) ?_
                refine lv_dup hx hb dX12_finds_101 rfl ?_
                refine tk_getP (D := (dC, dI)) (ci := 12) (v := .int v_30) (C := RX12) (T := TX12) (N := 56) hx hb hU inlX12 hown hK hP mo0 hfo_83 rfl 29 (by decide) (hU _ wd_570) (fun _ h9 => h9) rfl dX12_finds_102 ?_
                refine lv_iconst (v := 1) hx hb dX12_finds_105 (by decide) ?_
                refine lv_iadd hx hb dX12_finds_106 ?_
                refine lv_topi (fun x_85 ex_85 => ?_)
                have hx_85 : x_85.toInt = v_30.toInt + 1 := by rw [ex_85, ad_I (by rw [ti_1]; omega) (by rw [ti_1]; omega), ti_1]
                have bx_85 : (1 ≤ x_85.toInt ∧ x_85.toInt ≤ 201) := by constructor <;> omega
                refine tk_putP (D := (dC, dI)) (ci := 12) (v := .int x_85) (ty := .int) (C := RX12) (T := TX12) (N := 56) hx hb hU inlX12 tyX12 tyX12_ok nmX12 hown hK hP hD hS mo0 hfo_83 rfl 29 (by decide) (hU _ wd_570) (fun _ h9 => h9) rfl (by decide +kernel) rfl rfl (Nat.le_of_ble_eq_true rfl) dX12_finds_107 (fun H locs hP hD hS => ?_)
                have fa_86 := fu12_29 (y := x_85) fa_58 (by constructor <;> omega)
                obtain ⟨f_88, ef_88⟩ : ∃ y : Nat → va_E, y = va_up f_82 o0 (.inr (12, [.ref a_1, .ref a_2, .ref a_3, .int v_4, .ref a_5, .int v_6, .int v_7, .int v_8, .int v_9, .int v_10, .int v_11, .int v_12, .int v_13, .int v_14, .int v_15, .ref a_16, .ref a_17, .ref a_18, .ref a_19, .ref a_20, .ref a_21, .ref a_22, .ref a_23, .int v_24, .int v_25, .int v_26, .int v_27, .int v_28, .ref a_29, .int x_85, .ref a_31, .ref a_32, .int v_33, .int v_34, .ref a_35, .int v_36, .ref a_37, .ref a_38, .int v_39, .int v_40, .ref a_41, .ref a_42, .ref a_43, .int v_44, .ref a_45, .ref a_46, .ref a_47, .ref a_48, .ref a_49, .ref a_50, .ref a_51, .ref a_52, .ref a_53, .int v_54, .int v_55, .ref a_56])) := ⟨_, rfl⟩
                have hP : va_P (dC, dI) vwCl (va_pl L f_88) H := by rw [ef_88]; exact hP
                have hD : va_D (fun q => q ∈ L) (va_pl L f_88) := by rw [ef_88]; exact hD
                have hG : GI (okc cI cL cZ cR cG cH L kd) kd L f_88 := by rw [ef_88]; exact hG.set o0 (mk_12 ko0 (fo12 fa_86))
                have hfr0 : ∀ b, kd b ≠ 12 → kd b ≠ 591 → f_88 b = f b := fun b q12 q591 => (congrFun ef_88 b).trans ((up_ne (fun e9 => q12 (by rw [e9]; exact ko0))).trans (hfr0 b q12 q591))
                have hrA12 : ∀ b, kd b = 12 → ∀ j, fldR (f_88 b) j = fldR (f b) j := fun b kb j => ((congrArg (fun x => fldR x j) (congrFun ef_88 b)).trans (fra_up (fun j => by rw [hfo_83]; exact fr_set (k := 29) rfl rfl) j b)).trans (hrA12 b kb j)
                have hfA12 : ∀ b, kd b = 12 → ∀ j, j ≠ 27 → j ≠ 29 → fldI (f_88 b) j = fldI (f b) j := fun b kb j n27 n29 => ((congrArg (fun x => fldI x j) (congrFun ef_88 b)).trans (fia_up (fun h9 => by rw [hfo_83]; exact fi_set (k := 29) rfl h9) n29 b)).trans (hfA12 b kb j n27 n29)
                have hfo_89 : f_88 o0 = .inr (12, [.ref a_1, .ref a_2, .ref a_3, .int v_4, .ref a_5, .int v_6, .int v_7, .int v_8, .int v_9, .int v_10, .int v_11, .int v_12, .int v_13, .int v_14, .int v_15, .ref a_16, .ref a_17, .ref a_18, .ref a_19, .ref a_20, .ref a_21, .ref a_22, .ref a_23, .int v_24, .int v_25, .int v_26, .int v_27, .int v_28, .ref a_29, .int x_85, .ref a_31, .ref a_32, .int v_33, .int v_34, .ref a_35, .int v_36, .ref a_37, .ref a_38, .int v_39, .int v_40, .ref a_41, .ref a_42, .ref a_43, .int v_44, .ref a_45, .ref a_46, .ref a_47, .ref a_48, .ref a_49, .ref a_50, .ref a_51, .ref a_52, .ref a_53, .int v_54, .int v_55, .ref a_56]) := by rw [ef_88]; exact up_self
                refine lv_aload_n hx hb dX12_finds_110 rfl (lv_at hl 3 rfl) ?_
                refine lv_aload_n hx hb dX12_finds_111 rfl (lv_at hl 3 rfl) ?_
                refine tk_getP (D := (dC, dI)) (ci := 12) (v := .int x_85) (C := RX12) (T := TX12) (N := 56) hx hb hU inlX12 hown hK hP mo0 hfo_89 rfl 29 (by decide) (hU _ wd_570) (fun _ h9 => h9) rfl dX12_finds_112 ?_
                refine lv_sipush (v := 200) hx hb dX12_finds_115 (by decide) ?_
                refine lv_icmp_le (tgt := 125) hx hb dX12_finds_118 (by decide) (fun c_90 => ?_) (fun c_90 => ?_)
                · skip
                  rw [Int32.le_iff_toInt_le, ti_200] at c_90
                  refine lv_iconst (v := 0) hx hb dX12_finds_125 (by decide) ?_
                  refine tk_putP (D := (dC, dI)) (ci := 12) (v := .int 0) (ty := .boolean) (C := RX12) (T := TX12) (N := 56) hx hb hU inlX12 tyX12 tyX12_ok nmX12 hown hK hP hD hS mo0 hfo_89 rfl 27 (by decide) (hU _ wd_873) (fun _ h9 => h9) rfl (by decide +kernel) rfl rfl (Nat.le_of_ble_eq_true rfl) dX12_finds_126 (fun H locs hP hD hS => ?_)
                  have fa_91 := fu12_27 (y := 0) fa_86 (by decide)
                  obtain ⟨f_93, ef_93⟩ : ∃ y : Nat → va_E, y = va_up f_88 o0 (.inr (12, [.ref a_1, .ref a_2, .ref a_3, .int v_4, .ref a_5, .int v_6, .int v_7, .int v_8, .int v_9, .int v_10, .int v_11, .int v_12, .int v_13, .int v_14, .int v_15, .ref a_16, .ref a_17, .ref a_18, .ref a_19, .ref a_20, .ref a_21, .ref a_22, .ref a_23, .int v_24, .int v_25, .int v_26, .int v_27, .int 0, .ref a_29, .int x_85, .ref a_31, .ref a_32, .int v_33, .int v_34, .ref a_35, .int v_36, .ref a_37, .ref a_38, .int v_39, .int v_40, .ref a_41, .ref a_42, .ref a_43, .int v_44, .ref a_45, .ref a_46, .ref a_47, .ref a_48, .ref a_49, .ref a_50, .ref a_51, .ref a_52, .ref a_53, .int v_54, .int v_55, .ref a_56])) := ⟨_, rfl⟩
                  have hP : va_P (dC, dI) vwCl (va_pl L f_93) H := by rw [ef_93]; exact hP
                  have hD : va_D (fun q => q ∈ L) (va_pl L f_93) := by rw [ef_93]; exact hD
                  have hG : GI (okc cI cL cZ cR cG cH L kd) kd L f_93 := by rw [ef_93]; exact hG.set o0 (mk_12 ko0 (fo12 fa_91))
                  have hfr0 : ∀ b, kd b ≠ 12 → kd b ≠ 591 → f_93 b = f b := fun b q12 q591 => (congrFun ef_93 b).trans ((up_ne (fun e9 => q12 (by rw [e9]; exact ko0))).trans (hfr0 b q12 q591))
                  have hrA12 : ∀ b, kd b = 12 → ∀ j, fldR (f_93 b) j = fldR (f b) j := fun b kb j => ((congrArg (fun x => fldR x j) (congrFun ef_93 b)).trans (fra_up (fun j => by rw [hfo_89]; exact fr_set (k := 27) rfl rfl) j b)).trans (hrA12 b kb j)
                  have hfA12 : ∀ b, kd b = 12 → ∀ j, j ≠ 27 → j ≠ 29 → fldI (f_93 b) j = fldI (f b) j := fun b kb j n27 n29 => ((congrArg (fun x => fldI x j) (congrFun ef_93 b)).trans (fia_up (fun h9 => by rw [hfo_89]; exact fi_set (k := 27) rfl h9) n27 b)).trans (hfA12 b kb j n27 n29)
                  have hfo_94 : f_93 o0 = .inr (12, [.ref a_1, .ref a_2, .ref a_3, .int v_4, .ref a_5, .int v_6, .int v_7, .int v_8, .int v_9, .int v_10, .int v_11, .int v_12, .int v_13, .int v_14, .int v_15, .ref a_16, .ref a_17, .ref a_18, .ref a_19, .ref a_20, .ref a_21, .ref a_22, .ref a_23, .int v_24, .int v_25, .int v_26, .int v_27, .int 0, .ref a_29, .int x_85, .ref a_31, .ref a_32, .int v_33, .int v_34, .ref a_35, .int v_36, .ref a_37, .ref a_38, .int v_39, .int v_40, .ref a_41, .ref a_42, .ref a_43, .int v_44, .ref a_45, .ref a_46, .ref a_47, .ref a_48, .ref a_49, .ref a_50, .ref a_51, .ref a_52, .ref a_53, .int v_54, .int v_55, .ref a_56]) := by rw [ef_93]; exact up_self
                  exact W.vret hx hb hr (fun t ht hW => ⟨⟨f_93, rfl, ⟨hG, hfr0, hrA12, hfA12, (by intro w27 z27 w29 z29 e27 e29 d27 d29; rw [hfo_57] at e27 e29; rw [hfo_94] at d27 d29; obtain rfl := Option.some.inj e27; obtain rfl := Option.some.inj d27; obtain rfl := Option.some.inj e29; obtain rfl := Option.some.inj d29; (try rw [ti_0]) <;> omega)⟩, by rw [ht]; exact hP, va_K.moved hW.alike hK, pl_in hD⟩, hS.F ht⟩) hS.2.2 dX12_finds_129
                · skip
                  rw [Int32.le_iff_toInt_le, ti_200] at c_90
                  refine lv_iconst (v := 1) hx hb dX12_finds_121 (by decide) ?_
                  refine lv_goto (tgt := 126) hx hb dX12_finds_122 (by decide) ?_
                  refine tk_putP (D := (dC, dI)) (ci := 12) (v := .int 1) (ty := .boolean) (C := RX12) (T := TX12) (N := 56) hx hb hU inlX12 tyX12 tyX12_ok nmX12 hown hK hP hD hS mo0 hfo_89 rfl 27 (by decide) (hU _ wd_873) (fun _ h9 => h9) rfl (by decide +kernel) rfl rfl (Nat.le_of_ble_eq_true rfl) dX12_finds_126 (fun H locs hP hD hS => ?_)
                  have fa_95 := fu12_27 (y := 1) fa_86 (by decide)
                  obtain ⟨f_97, ef_97⟩ : ∃ y : Nat → va_E, y = va_up f_88 o0 (.inr (12, [.ref a_1, .ref a_2, .ref a_3, .int v_4, .ref a_5, .int v_6, .int v_7, .int v_8, .int v_9, .int v_10, .int v_11, .int v_12, .int v_13, .int v_14, .int v_15, .ref a_16, .ref a_17, .ref a_18, .ref a_19, .ref a_20, .ref a_21, .ref a_22, .ref a_23, .int v_24, .int v_25, .int v_26, .int v_27, .int 1, .ref a_29, .int x_85, .ref a_31, .ref a_32, .int v_33, .int v_34, .ref a_35, .int v_36, .ref a_37, .ref a_38, .int v_39, .int v_40, .ref a_41, .ref a_42, .ref a_43, .int v_44, .ref a_45, .ref a_46, .ref a_47, .ref a_48, .ref a_49, .ref a_50, .ref a_51, .ref a_52, .ref a_53, .int v_54, .int v_55, .ref a_56])) := ⟨_, rfl⟩
                  have hP : va_P (dC, dI) vwCl (va_pl L f_97) H := by rw [ef_97]; exact hP
                  have hD : va_D (fun q => q ∈ L) (va_pl L f_97) := by rw [ef_97]; exact hD
                  have hG : GI (okc cI cL cZ cR cG cH L kd) kd L f_97 := by rw [ef_97]; exact hG.set o0 (mk_12 ko0 (fo12 fa_95))
                  have hfr0 : ∀ b, kd b ≠ 12 → kd b ≠ 591 → f_97 b = f b := fun b q12 q591 => (congrFun ef_97 b).trans ((up_ne (fun e9 => q12 (by rw [e9]; exact ko0))).trans (hfr0 b q12 q591))
                  have hrA12 : ∀ b, kd b = 12 → ∀ j, fldR (f_97 b) j = fldR (f b) j := fun b kb j => ((congrArg (fun x => fldR x j) (congrFun ef_97 b)).trans (fra_up (fun j => by rw [hfo_89]; exact fr_set (k := 27) rfl rfl) j b)).trans (hrA12 b kb j)
                  have hfA12 : ∀ b, kd b = 12 → ∀ j, j ≠ 27 → j ≠ 29 → fldI (f_97 b) j = fldI (f b) j := fun b kb j n27 n29 => ((congrArg (fun x => fldI x j) (congrFun ef_97 b)).trans (fia_up (fun h9 => by rw [hfo_89]; exact fi_set (k := 27) rfl h9) n27 b)).trans (hfA12 b kb j n27 n29)
                  have hfo_98 : f_97 o0 = .inr (12, [.ref a_1, .ref a_2, .ref a_3, .int v_4, .ref a_5, .int v_6, .int v_7, .int v_8, .int v_9, .int v_10, .int v_11, .int v_12, .int v_13, .int v_14, .int v_15, .ref a_16, .ref a_17, .ref a_18, .ref a_19, .ref a_20, .ref a_21, .ref a_22, .ref a_23, .int v_24, .int v_25, .int v_26, .int v_27, .int 1, .ref a_29, .int x_85, .ref a_31, .ref a_32, .int v_33, .int v_34, .ref a_35, .int v_36, .ref a_37, .ref a_38, .int v_39, .int v_40, .ref a_41, .ref a_42, .ref a_43, .int v_44, .ref a_45, .ref a_46, .ref a_47, .ref a_48, .ref a_49, .ref a_50, .ref a_51, .ref a_52, .ref a_53, .int v_54, .int v_55, .ref a_56]) := by rw [ef_97]; exact up_self
                  exact W.vret hx hb hr (fun t ht hW => ⟨⟨f_97, rfl, ⟨hG, hfr0, hrA12, hfA12, (by intro w27 z27 w29 z29 e27 e29 d27 d29; rw [hfo_57] at e27 e29; rw [hfo_98] at d27 d29; obtain rfl := Option.some.inj e27; obtain rfl := Option.some.inj d27; obtain rfl := Option.some.inj e29; obtain rfl := Option.some.inj d29; (try rw [ti_1]) <;> omega)⟩, by rw [ht]; exact hP, va_K.moved hW.alike hK, pl_in hD⟩, hS.F ht⟩) hS.2.2 dX12_finds_129
              · skip
                rw [Int32.le_iff_toInt_le] at c_78
                refine lv_aload_n hx hb dX12_finds_70 rfl (lv_at hl 3 rfl) ?_
                refine tk_getP (D := (dC, dI)) (ci := 12) (v := .ref a_29) (C := RX12) (T := TX12) (N := 56) hx hb hU inlX12 hown hK hP mo0 hfo_77 rfl 28 (by decide) (hU _ wd_183) (fun _ h9 => h9) rfl dX12_finds_71 ?_
                refine lv_iload hx hb dX12_finds_74 (lv_at hl 0 rfl) ?_
                refine lv_aload_n hx hb dX12_finds_76 rfl (lv_at hl 3 rfl) ?_
                refine tk_getP (D := (dC, dI)) (ci := 12) (v := .ref a_29) (C := RX12) (T := TX12) (N := 56) hx hb hU inlX12 hown hK hP mo0 hfo_77 rfl 28 (by decide) (hU _ wd_183) (fun _ h9 => h9) rfl dX12_finds_77 ?_
                refine lv_iload hx hb dX12_finds_80 (lv_at hl 0 rfl) ?_
                refine lv_iconst (v := 1) hx hb dX12_finds_82 (by decide) ?_
                refine lv_isub hx hb dX12_finds_83 ?_
                refine lv_topi (fun x_99 ex_99 => ?_)
                have hx_99 : x_99.toInt = y_74.toInt - 1 := by rw [ex_99, sb_I (by rw [ti_1]; omega) (by rw [ti_1]; omega), ti_1]
                have bx_99 : (0 ≤ x_99.toInt ∧ x_99.toInt ≤ 199) := by constructor <;> omega
                obtain ⟨g_101, hfo_100⟩ := un_591 (hG _ ma_29) ka_29
                refine tk_lldP hx hb hK hP 1 ma_29 hfo_100 rfl (vp_in_iff.mpr (by constructor <;> omega)) dX12_finds_84 ?_
                refine lv_topl (fun j_102 ej_102 => ?_)
                refine tk_lstP hx hb hK hP hD hS 1 ma_29 hfo_100 rfl (vp_in_iff.mpr (by constructor <;> omega)) dX12_finds_85 (fun H locs hP hD hS => ?_)
                obtain ⟨f_104, ef_104⟩ : ∃ y : Nat → va_E, y = va_up f_76 a_29 (.inl (cL, 201, .inr (.inl (vp_updL g_101 (Int32.toNatClampNeg y_74) j_102)))) := ⟨_, rfl⟩
                have hP : va_P (dC, dI) vwCl (va_pl L f_104) H := by rw [ef_104]; exact hP
                have hD : va_D (fun q => q ∈ L) (va_pl L f_104) := by rw [ef_104]; exact hD
                have hG : GI (okc cI cL cZ cR cG cH L kd) kd L f_104 := by rw [ef_104]; exact hG.set a_29 (mk_591 ka_29 ⟨_, rfl⟩)
                have hfo_105 : f_104 o0 = .inr (12, [.ref a_1, .ref a_2, .ref a_3, .int v_4, .ref a_5, .int v_6, .int v_7, .int v_8, .int v_9, .int v_10, .int v_11, .int v_12, .int v_13, .int v_14, .int v_15, .ref a_16, .ref a_17, .ref a_18, .ref a_19, .ref a_20, .ref a_21, .ref a_22, .ref a_23, .int v_24, .int v_25, .int v_26, .int v_27, .int v_28, .ref a_29, .int v_30, .ref a_31, .ref a_32, .int v_33, .int v_34, .ref a_35, .int v_36, .ref a_37, .ref a_38, .int v_39, .int v_40, .ref a_41, .ref a_42, .ref a_43, .int v_44, .ref a_45, .ref a_46, .ref a_47, .ref a_48, .ref a_49, .ref a_50, .ref a_51, .ref a_52, .ref a_53, .int v_54, .int v_55, .ref a_56]) := by rw [ef_104, up_ne (kd_ne ka_29 ko0 (by decide))]; exact hfo_77
                have hfr0 : ∀ b, kd b ≠ 12 → kd b ≠ 591 → f_104 b = f b := fun b q12 q591 => (congrFun ef_104 b).trans ((up_ne (fun e9 => q591 (by rw [e9]; exact ka_29))).trans (hfr0 b q12 q591))
                have hrA12 : ∀ b, kd b = 12 → ∀ j, fldR (f_104 b) j = fldR (f b) j := fun b kb j => (congrArg (fun x => fldR x j) ((congrFun ef_104 b).trans (up_ne (kd_ne ka_29 kb (by decide))))).trans (hrA12 b kb j)
                have hfA12 : ∀ b, kd b = 12 → ∀ j, j ≠ 27 → j ≠ 29 → fldI (f_104 b) j = fldI (f b) j := fun b kb j n27 n29 => (congrArg (fun x => fldI x j) ((congrFun ef_104 b).trans (up_ne (kd_ne ka_29 kb (by decide))))).trans (hfA12 b kb j n27 n29)
                have hfo_106 : f_104 a_29 = .inl (cL, 201, .inr (.inl (vp_updL g_101 (Int32.toNatClampNeg y_74) j_102))) := by rw [ef_104]; exact up_self
                obtain ⟨x_107, ex_107⟩ : ∃ y : Int32, y_74 + (-1) = y := ⟨_, rfl⟩
                have hx_107 : x_107.toInt = y_74.toInt + (-1) := by rw [← ex_107, ad_I (by rw [ti_m1]; omega) (by rw [ti_m1]; omega), ti_m1]
                have bx_107 : (0 ≤ x_107.toInt ∧ x_107.toInt ≤ 199) := by constructor <;> omega
                refine lv_iinc (v := x_107) (lv' := [(5, .int x_107), (4, .int y_65), (2, .long x_59), (0, .ref o0), (1, .int p1)]) hx hb dX12_finds_86 hl (k := 0) rfl ex_107 (by decide) rfl (fun ls hl => ?_)
                refine lv_goto (tgt := 63) hx hb dX12_finds_89 (by decide) ?_
                exact ih_hloop_73 x_107 (by constructor <;> omega) f_104 hG _ _ hP hS hD hfr0 hrA12 hfA12 hfo_105 (by omega) ls (lv_sub hl [0, 1, 2, 3, 4] rfl)
          exact hloop_73 201 v_30 (by constructor <;> omega) f hG _ _ hP hS hD hfr0 hrA12 hfA12 hfo_57 (by omega) ls hl
        · skip
          rw [Int32.le_iff_toInt_le, ti_0] at c_67
          exfalso
          omega
      · skip
        rw [Int32.le_iff_toInt_le, ti_0] at c_66
        refine lv_aload_n hx hb dX12_finds_17 rfl (lv_at hl 2 rfl) ?_
        refine tk_getP (D := (dC, dI)) (ci := 12) (v := .ref a_29) (C := RX12) (T := TX12) (N := 56) hx hb hU inlX12 hown hK hP mo0 hfo_57 rfl 28 (by decide) (hU _ wd_183) (fun _ h9 => h9) rfl dX12_finds_18 ?_
        refine lv_iload hx hb dX12_finds_21 (lv_at hl 0 rfl) ?_
        refine lv_iconst (v := 1) hx hb dX12_finds_23 (by decide) ?_
        refine lv_isub hx hb dX12_finds_24 ?_
        refine lv_topi (fun x_108 ex_108 => ?_)
        have hx_108 : x_108.toInt = y_65.toInt - 1 := by rw [ex_108, sb_I (by rw [ti_1]; omega) (by rw [ti_1]; omega), ti_1]
        have bx_108 : (0 ≤ x_108.toInt ∧ x_108.toInt ≤ 199) := by constructor <;> omega
        obtain ⟨g_110, hfo_109⟩ := un_591 (hG _ ma_29) ka_29
        refine tk_lldP hx hb hK hP 1 ma_29 hfo_109 rfl (vp_in_iff.mpr (by constructor <;> omega)) dX12_finds_25 ?_
        refine lv_topl (fun j_111 ej_111 => ?_)
        refine lv_lload_n hx hb dX12_finds_26 rfl (lv_at hl 1 rfl) ?_
        refine lv_lcmp hx hb dX12_finds_27 (fun x_112 bx_112 hx_112 => ?_)
        refine lv_if_le (tgt := 37) hx hb dX12_finds_28 (by decide) (fun c_113 => ?_) (fun c_113 => ?_)
        · skip
          rw [Int32.le_iff_toInt_le, ti_0] at c_113
          refine lv_iload hx hb dX12_finds_37 (lv_at hl 0 rfl) ?_
          refine lv_if_le (tgt := 57) hx hb dX12_finds_39 (by decide) (fun c_114 => ?_) (fun c_114 => ?_)
          · skip
            rw [Int32.le_iff_toInt_le, ti_0] at c_114
            exfalso
            omega
          · skip
            rw [Int32.le_iff_toInt_le, ti_0] at c_114
            refine lv_aload_n hx hb dX12_finds_42 rfl (lv_at hl 2 rfl) ?_
            refine tk_getP (D := (dC, dI)) (ci := 12) (v := .ref a_29) (C := RX12) (T := TX12) (N := 56) hx hb hU inlX12 hown hK hP mo0 hfo_57 rfl 28 (by decide) (hU _ wd_183) (fun _ h9 => h9) rfl dX12_finds_43 ?_
            refine lv_iload hx hb dX12_finds_46 (lv_at hl 0 rfl) ?_
            refine lv_iconst (v := 1) hx hb dX12_finds_48 (by decide) ?_
            refine lv_isub hx hb dX12_finds_49 ?_
            refine lv_topi (fun x_115 ex_115 => ?_)
            have hx_115 : x_115.toInt = y_65.toInt - 1 := by rw [ex_115, sb_I (by rw [ti_1]; omega) (by rw [ti_1]; omega), ti_1]
            have bx_115 : (0 ≤ x_115.toInt ∧ x_115.toInt ≤ 199) := by constructor <;> omega
            refine tk_lldP hx hb hK hP 1 ma_29 hfo_109 rfl (vp_in_iff.mpr (by constructor <;> omega)) dX12_finds_50 ?_
            refine lv_topl (fun j_116 ej_116 => ?_)
            refine lv_lload_n hx hb dX12_finds_51 rfl (lv_at hl 1 rfl) ?_
            refine lv_lcmp hx hb dX12_finds_52 (fun x_117 bx_117 hx_117 => ?_)
            refine lv_if_ne (tgt := 57) hx hb dX12_finds_53 (by decide) (fun c_118 => ?_) (fun c_118 => ?_)
            · skip
              rw [← Int32.toInt_inj, ti_0] at c_118
              refine lv_aload_n hx hb dX12_finds_57 rfl (lv_at hl 2 rfl) ?_
              refine tk_getP (D := (dC, dI)) (ci := 12) (v := .int v_30) (C := RX12) (T := TX12) (N := 56) hx hb hU inlX12 hown hK hP mo0 hfo_57 rfl 29 (by decide) (hU _ wd_570) (fun _ h9 => h9) rfl dX12_finds_58 ?_
              refine lv_istore (lv' := [(5, .int v_30), (4, .int y_65), (2, .long x_59), (0, .ref o0), (1, .int p1)]) hx hb dX12_finds_61 hl (by decide) rfl (fun ls hl => ?_)
              have hloop_124 : ∀ (n : Nat), ∀ (y_125 : Int32), (0 ≤ y_125.toInt ∧ y_125.toInt ≤ 200) → ∀ (f_127 : Nat → va_E), GI (okc cI cL cZ cR cG cH L kd) kd L f_127 → ∀ (H : Heap) (locs : List Loc), va_P (dC, dI) vwCl (va_pl L f_127) H → va_S (fun q => q ∈ L) s.heap H locs → va_D (fun q => q ∈ L) (va_pl L f_127) → (∀ b, kd b ≠ 12 → kd b ≠ 591 → f_127 b = f b) → (∀ b, kd b = 12 → ∀ j, fldR (f_127 b) j = fldR (f b) j) → (∀ b, kd b = 12 → ∀ j, j ≠ 27 → j ≠ 29 → fldI (f_127 b) j = fldI (f b) j) → (f_127 o0 = .inr (12, [.ref a_1, .ref a_2, .ref a_3, .int v_4, .ref a_5, .int v_6, .int v_7, .int v_8, .int v_9, .int v_10, .int v_11, .int v_12, .int v_13, .int v_14, .int v_15, .ref a_16, .ref a_17, .ref a_18, .ref a_19, .ref a_20, .ref a_21, .ref a_22, .ref a_23, .int v_24, .int v_25, .int v_26, .int v_27, .int v_28, .ref a_29, .int v_30, .ref a_31, .ref a_32, .int v_33, .int v_34, .ref a_35, .int v_36, .ref a_37, .ref a_38, .int v_39, .int v_40, .ref a_41, .ref a_42, .ref a_43, .int v_44, .ref a_45, .ref a_46, .ref a_47, .ref a_48, .ref a_49, .ref a_50, .ref a_51, .ref a_52, .ref a_53, .int v_54, .int v_55, .ref a_56])) → y_125.toInt - 0 < (n : Int) → ∀ (ls : Array Slot), lv_has ls 6 [(5, .int y_125), (4, .int y_65), (2, .long x_59), (0, .ref o0), (1, .int p1)] → W p l e (headSpec (wU yX12_finds cX12_finds 6 none) { frames := 1, cells := 0, slots := 0, locals := 24 }).room s m [.ref o0, .int p1].toArray below meth c H locs 0 0 (MQ below (va_Qv (fun (f9 : Nat → va_E) => GI (okc cI cL cZ cR cG cH L kd) kd L f9 ∧ (∀ b, kd b ≠ 12 → kd b ≠ 591 → f9 b = f b) ∧ (∀ b, kd b = 12 → ∀ j, fldR (f9 b) j = fldR (f b) j) ∧ (∀ b, kd b = 12 → ∀ j, j ≠ 27 → j ≠ 29 → fldI (f9 b) j = fldI (f b) j) ∧ (∀ (w27 z27 : Int32) (w29 z29 : Int32), fldI (f o0) 27 = some w27 → fldI (f o0) 29 = some w29 → fldI (f9 o0) 27 = some z27 → fldI (f9 o0) 29 = some z29 → z27.toInt = 1 ∨ z29.toInt ≤ 200)) (qP (dC, dI) cI cL cZ cR cG cH L) (fun q => q ∈ L)) [.ref o0, .int p1].toArray s 0 0 (fun q => q ∈ L)) (F0 m 63 ls []) := by
                intro n
                induction n with
                | zero => intro y_125 by_125 f_127 hG H locs hP hS hD hfr0 hrA12 hfA12 hfo_128 hmuhloop_124 ls hl; exfalso; omega
                | succ n ih_hloop_124 =>
                  intro y_125 by_125 f_127 hG H locs hP hS hD hfr0 hrA12 hfA12 hfo_128 hmuhloop_124 ls hl
                  refine lv_iload hx hb dX12_finds_63 (lv_at hl 0 rfl) ?_
                  refine lv_iload hx hb dX12_finds_65 (lv_at hl 1 rfl) ?_
                  refine lv_icmp_le (tgt := 92) hx hb dX12_finds_67 (by decide) (fun c_129 => ?_) (fun c_129 => ?_)
                  · skip
                    rw [Int32.le_iff_toInt_le] at c_129
                    refine lv_aload_n hx hb dX12_finds_92 rfl (lv_at hl 3 rfl) ?_
                    refine tk_getP (D := (dC, dI)) (ci := 12) (v := .ref a_29) (C := RX12) (T := TX12) (N := 56) hx hb hU inlX12 hown hK hP mo0 hfo_128 rfl 28 (by decide) (hU _ wd_183) (fun _ h9 => h9) rfl dX12_finds_93 ?_
                    refine lv_iload hx hb dX12_finds_96 (lv_at hl 1 rfl) ?_
                    refine lv_lload_n hx hb dX12_finds_98 rfl (lv_at hl 2 rfl) ?_
                    obtain ⟨g_131, hfo_130⟩ := un_591 (hG _ ma_29) ka_29
                    refine tk_lstP hx hb hK hP hD hS 1 ma_29 hfo_130 rfl (vp_in_iff.mpr (by constructor <;> omega)) dX12_finds_99 (fun H locs hP hD hS => ?_)
                    obtain ⟨f_133, ef_133⟩ : ∃ y : Nat → va_E, y = va_up f_127 a_29 (.inl (cL, 201, .inr (.inl (vp_updL g_131 (Int32.toNatClampNeg y_65) x_59)))) := ⟨_, rfl⟩
                    have hP : va_P (dC, dI) vwCl (va_pl L f_133) H := by rw [ef_133]; exact hP
                    have hD : va_D (fun q => q ∈ L) (va_pl L f_133) := by rw [ef_133]; exact hD
                    have hG : GI (okc cI cL cZ cR cG cH L kd) kd L f_133 := by rw [ef_133]; exact hG.set a_29 (mk_591 ka_29 ⟨_, rfl⟩)
                    have hfo_134 : f_133 o0 = .inr (12, [.ref a_1, .ref a_2, .ref a_3, .int v_4, .ref a_5, .int v_6, .int v_7, .int v_8, .int v_9, .int v_10, .int v_11, .int v_12, .int v_13, .int v_14, .int v_15, .ref a_16, .ref a_17, .ref a_18, .ref a_19, .ref a_20, .ref a_21, .ref a_22, .ref a_23, .int v_24, .int v_25, .int v_26, .int v_27, .int v_28, .ref a_29, .int v_30, .ref a_31, .ref a_32, .int v_33, .int v_34, .ref a_35, .int v_36, .ref a_37, .ref a_38, .int v_39, .int v_40, .ref a_41, .ref a_42, .ref a_43, .int v_44, .ref a_45, .ref a_46, .ref a_47, .ref a_48, .ref a_49, .ref a_50, .ref a_51, .ref a_52, .ref a_53, .int v_54, .int v_55, .ref a_56]) := by rw [ef_133, up_ne (kd_ne ka_29 ko0 (by decide))]; exact hfo_128
                    have hfr0 : ∀ b, kd b ≠ 12 → kd b ≠ 591 → f_133 b = f b := fun b q12 q591 => (congrFun ef_133 b).trans ((up_ne (fun e9 => q591 (by rw [e9]; exact ka_29))).trans (hfr0 b q12 q591))
                    have hrA12 : ∀ b, kd b = 12 → ∀ j, fldR (f_133 b) j = fldR (f b) j := fun b kb j => (congrArg (fun x => fldR x j) ((congrFun ef_133 b).trans (up_ne (kd_ne ka_29 kb (by decide))))).trans (hrA12 b kb j)
                    have hfA12 : ∀ b, kd b = 12 → ∀ j, j ≠ 27 → j ≠ 29 → fldI (f_133 b) j = fldI (f b) j := fun b kb j n27 n29 => (congrArg (fun x => fldI x j) ((congrFun ef_133 b).trans (up_ne (kd_ne ka_29 kb (by decide))))).trans (hfA12 b kb j n27 n29)
                    have hfo_135 : f_133 a_29 = .inl (cL, 201, .inr (.inl (vp_updL g_131 (Int32.toNatClampNeg y_65) x_59))) := by rw [ef_133]; exact up_self
                    refine lv_aload_n hx hb dX12_finds_100 rfl (lv_at hl 3 rfl) ?_
                    refine lv_dup hx hb dX12_finds_101 rfl ?_
                    refine tk_getP (D := (dC, dI)) (ci := 12) (v := .int v_30) (C := RX12) (T := TX12) (N := 56) hx hb hU inlX12 hown hK hP mo0 hfo_134 rfl 29 (by decide) (hU _ wd_570) (fun _ h9 => h9) rfl dX12_finds_102 ?_
                    refine lv_iconst (v := 1) hx hb dX12_finds_105 (by decide) ?_
                    refine lv_iadd hx hb dX12_finds_106 ?_
                    refine lv_topi (fun x_136 ex_136 => ?_)
                    have hx_136 : x_136.toInt = v_30.toInt + 1 := by rw [ex_136, ad_I (by rw [ti_1]; omega) (by rw [ti_1]; omega), ti_1]
                    have bx_136 : (1 ≤ x_136.toInt ∧ x_136.toInt ≤ 201) := by constructor <;> omega
                    refine tk_putP (D := (dC, dI)) (ci := 12) (v := .int x_136) (ty := .int) (C := RX12) (T := TX12) (N := 56) hx hb hU inlX12 tyX12 tyX12_ok nmX12 hown hK hP hD hS mo0 hfo_134 rfl 29 (by decide) (hU _ wd_570) (fun _ h9 => h9) rfl (by decide +kernel) rfl rfl (Nat.le_of_ble_eq_true rfl) dX12_finds_107 (fun H locs hP hD hS => ?_)
                    have fa_137 := fu12_29 (y := x_136) fa_58 (by constructor <;> omega)
                    obtain ⟨f_139, ef_139⟩ : ∃ y : Nat → va_E, y = va_up f_133 o0 (.inr (12, [.ref a_1, .ref a_2, .ref a_3, .int v_4, .ref a_5, .int v_6, .int v_7, .int v_8, .int v_9, .int v_10, .int v_11, .int v_12, .int v_13, .int v_14, .int v_15, .ref a_16, .ref a_17, .ref a_18, .ref a_19, .ref a_20, .ref a_21, .ref a_22, .ref a_23, .int v_24, .int v_25, .int v_26, .int v_27, .int v_28, .ref a_29, .int x_136, .ref a_31, .ref a_32, .int v_33, .int v_34, .ref a_35, .int v_36, .ref a_37, .ref a_38, .int v_39, .int v_40, .ref a_41, .ref a_42, .ref a_43, .int v_44, .ref a_45, .ref a_46, .ref a_47, .ref a_48, .ref a_49, .ref a_50, .ref a_51, .ref a_52, .ref a_53, .int v_54, .int v_55, .ref a_56])) := ⟨_, rfl⟩
                    have hP : va_P (dC, dI) vwCl (va_pl L f_139) H := by rw [ef_139]; exact hP
                    have hD : va_D (fun q => q ∈ L) (va_pl L f_139) := by rw [ef_139]; exact hD
                    have hG : GI (okc cI cL cZ cR cG cH L kd) kd L f_139 := by rw [ef_139]; exact hG.set o0 (mk_12 ko0 (fo12 fa_137))
                    have hfr0 : ∀ b, kd b ≠ 12 → kd b ≠ 591 → f_139 b = f b := fun b q12 q591 => (congrFun ef_139 b).trans ((up_ne (fun e9 => q12 (by rw [e9]; exact ko0))).trans (hfr0 b q12 q591))
                    have hrA12 : ∀ b, kd b = 12 → ∀ j, fldR (f_139 b) j = fldR (f b) j := fun b kb j => ((congrArg (fun x => fldR x j) (congrFun ef_139 b)).trans (fra_up (fun j => by rw [hfo_134]; exact fr_set (k := 29) rfl rfl) j b)).trans (hrA12 b kb j)
                    have hfA12 : ∀ b, kd b = 12 → ∀ j, j ≠ 27 → j ≠ 29 → fldI (f_139 b) j = fldI (f b) j := fun b kb j n27 n29 => ((congrArg (fun x => fldI x j) (congrFun ef_139 b)).trans (fia_up (fun h9 => by rw [hfo_134]; exact fi_set (k := 29) rfl h9) n29 b)).trans (hfA12 b kb j n27 n29)
                    have hfo_140 : f_139 o0 = .inr (12, [.ref a_1, .ref a_2, .ref a_3, .int v_4, .ref a_5, .int v_6, .int v_7, .int v_8, .int v_9, .int v_10, .int v_11, .int v_12, .int v_13, .int v_14, .int v_15, .ref a_16, .ref a_17, .ref a_18, .ref a_19, .ref a_20, .ref a_21, .ref a_22, .ref a_23, .int v_24, .int v_25, .int v_26, .int v_27, .int v_28, .ref a_29, .int x_136, .ref a_31, .ref a_32, .int v_33, .int v_34, .ref a_35, .int v_36, .ref a_37, .ref a_38, .int v_39, .int v_40, .ref a_41, .ref a_42, .ref a_43, .int v_44, .ref a_45, .ref a_46, .ref a_47, .ref a_48, .ref a_49, .ref a_50, .ref a_51, .ref a_52, .ref a_53, .int v_54, .int v_55, .ref a_56]) := by rw [ef_139]; exact up_self
                    refine lv_aload_n hx hb dX12_finds_110 rfl (lv_at hl 3 rfl) ?_
                    refine lv_aload_n hx hb dX12_finds_111 rfl (lv_at hl 3 rfl) ?_
                    refine tk_getP (D := (dC, dI)) (ci := 12) (v := .int x_136) (C := RX12) (T := TX12) (N := 56) hx hb hU inlX12 hown hK hP mo0 hfo_140 rfl 29 (by decide) (hU _ wd_570) (fun _ h9 => h9) rfl dX12_finds_112 ?_
                    refine lv_sipush (v := 200) hx hb dX12_finds_115 (by decide) ?_
                    refine lv_icmp_le (tgt := 125) hx hb dX12_finds_118 (by decide) (fun c_141 => ?_) (fun c_141 => ?_)
                    · skip
                      rw [Int32.le_iff_toInt_le, ti_200] at c_141
                      refine lv_iconst (v := 0) hx hb dX12_finds_125 (by decide) ?_
                      refine tk_putP (D := (dC, dI)) (ci := 12) (v := .int 0) (ty := .boolean) (C := RX12) (T := TX12) (N := 56) hx hb hU inlX12 tyX12 tyX12_ok nmX12 hown hK hP hD hS mo0 hfo_140 rfl 27 (by decide) (hU _ wd_873) (fun _ h9 => h9) rfl (by decide +kernel) rfl rfl (Nat.le_of_ble_eq_true rfl) dX12_finds_126 (fun H locs hP hD hS => ?_)
                      have fa_142 := fu12_27 (y := 0) fa_137 (by decide)
                      obtain ⟨f_144, ef_144⟩ : ∃ y : Nat → va_E, y = va_up f_139 o0 (.inr (12, [.ref a_1, .ref a_2, .ref a_3, .int v_4, .ref a_5, .int v_6, .int v_7, .int v_8, .int v_9, .int v_10, .int v_11, .int v_12, .int v_13, .int v_14, .int v_15, .ref a_16, .ref a_17, .ref a_18, .ref a_19, .ref a_20, .ref a_21, .ref a_22, .ref a_23, .int v_24, .int v_25, .int v_26, .int v_27, .int 0, .ref a_29, .int x_136, .ref a_31, .ref a_32, .int v_33, .int v_34, .ref a_35, .int v_36, .ref a_37, .ref a_38, .int v_39, .int v_40, .ref a_41, .ref a_42, .ref a_43, .int v_44, .ref a_45, .ref a_46, .ref a_47, .ref a_48, .ref a_49, .ref a_50, .ref a_51, .ref a_52, .ref a_53, .int v_54, .int v_55, .ref a_56])) := ⟨_, rfl⟩
                      have hP : va_P (dC, dI) vwCl (va_pl L f_144) H := by rw [ef_144]; exact hP
                      have hD : va_D (fun q => q ∈ L) (va_pl L f_144) := by rw [ef_144]; exact hD
                      have hG : GI (okc cI cL cZ cR cG cH L kd) kd L f_144 := by rw [ef_144]; exact hG.set o0 (mk_12 ko0 (fo12 fa_142))
                      have hfr0 : ∀ b, kd b ≠ 12 → kd b ≠ 591 → f_144 b = f b := fun b q12 q591 => (congrFun ef_144 b).trans ((up_ne (fun e9 => q12 (by rw [e9]; exact ko0))).trans (hfr0 b q12 q591))
                      have hrA12 : ∀ b, kd b = 12 → ∀ j, fldR (f_144 b) j = fldR (f b) j := fun b kb j => ((congrArg (fun x => fldR x j) (congrFun ef_144 b)).trans (fra_up (fun j => by rw [hfo_140]; exact fr_set (k := 27) rfl rfl) j b)).trans (hrA12 b kb j)
                      have hfA12 : ∀ b, kd b = 12 → ∀ j, j ≠ 27 → j ≠ 29 → fldI (f_144 b) j = fldI (f b) j := fun b kb j n27 n29 => ((congrArg (fun x => fldI x j) (congrFun ef_144 b)).trans (fia_up (fun h9 => by rw [hfo_140]; exact fi_set (k := 27) rfl h9) n27 b)).trans (hfA12 b kb j n27 n29)
                      have hfo_145 : f_144 o0 = .inr (12, [.ref a_1, .ref a_2, .ref a_3, .int v_4, .ref a_5, .int v_6, .int v_7, .int v_8, .int v_9, .int v_10, .int v_11, .int v_12, .int v_13, .int v_14, .int v_15, .ref a_16, .ref a_17, .ref a_18, .ref a_19, .ref a_20, .ref a_21, .ref a_22, .ref a_23, .int v_24, .int v_25, .int v_26, .int v_27, .int 0, .ref a_29, .int x_136, .ref a_31, .ref a_32, .int v_33, .int v_34, .ref a_35, .int v_36, .ref a_37, .ref a_38, .int v_39, .int v_40, .ref a_41, .ref a_42, .ref a_43, .int v_44, .ref a_45, .ref a_46, .ref a_47, .ref a_48, .ref a_49, .ref a_50, .ref a_51, .ref a_52, .ref a_53, .int v_54, .int v_55, .ref a_56]) := by rw [ef_144]; exact up_self
                      exact W.vret hx hb hr (fun t ht hW => ⟨⟨f_144, rfl, ⟨hG, hfr0, hrA12, hfA12, (by intro w27 z27 w29 z29 e27 e29 d27 d29; rw [hfo_57] at e27 e29; rw [hfo_145] at d27 d29; obtain rfl := Option.some.inj e27; obtain rfl := Option.some.inj d27; obtain rfl := Option.some.inj e29; obtain rfl := Option.some.inj d29; (try rw [ti_0]) <;> omega)⟩, by rw [ht]; exact hP, va_K.moved hW.alike hK, pl_in hD⟩, hS.F ht⟩) hS.2.2 dX12_finds_129
                    · skip
                      rw [Int32.le_iff_toInt_le, ti_200] at c_141
                      refine lv_iconst (v := 1) hx hb dX12_finds_121 (by decide) ?_
                      refine lv_goto (tgt := 126) hx hb dX12_finds_122 (by decide) ?_
                      refine tk_putP (D := (dC, dI)) (ci := 12) (v := .int 1) (ty := .boolean) (C := RX12) (T := TX12) (N := 56) hx hb hU inlX12 tyX12 tyX12_ok nmX12 hown hK hP hD hS mo0 hfo_140 rfl 27 (by decide) (hU _ wd_873) (fun _ h9 => h9) rfl (by decide +kernel) rfl rfl (Nat.le_of_ble_eq_true rfl) dX12_finds_126 (fun H locs hP hD hS => ?_)
                      have fa_146 := fu12_27 (y := 1) fa_137 (by decide)
                      obtain ⟨f_148, ef_148⟩ : ∃ y : Nat → va_E, y = va_up f_139 o0 (.inr (12, [.ref a_1, .ref a_2, .ref a_3, .int v_4, .ref a_5, .int v_6, .int v_7, .int v_8, .int v_9, .int v_10, .int v_11, .int v_12, .int v_13, .int v_14, .int v_15, .ref a_16, .ref a_17, .ref a_18, .ref a_19, .ref a_20, .ref a_21, .ref a_22, .ref a_23, .int v_24, .int v_25, .int v_26, .int v_27, .int 1, .ref a_29, .int x_136, .ref a_31, .ref a_32, .int v_33, .int v_34, .ref a_35, .int v_36, .ref a_37, .ref a_38, .int v_39, .int v_40, .ref a_41, .ref a_42, .ref a_43, .int v_44, .ref a_45, .ref a_46, .ref a_47, .ref a_48, .ref a_49, .ref a_50, .ref a_51, .ref a_52, .ref a_53, .int v_54, .int v_55, .ref a_56])) := ⟨_, rfl⟩
                      have hP : va_P (dC, dI) vwCl (va_pl L f_148) H := by rw [ef_148]; exact hP
                      have hD : va_D (fun q => q ∈ L) (va_pl L f_148) := by rw [ef_148]; exact hD
                      have hG : GI (okc cI cL cZ cR cG cH L kd) kd L f_148 := by rw [ef_148]; exact hG.set o0 (mk_12 ko0 (fo12 fa_146))
                      have hfr0 : ∀ b, kd b ≠ 12 → kd b ≠ 591 → f_148 b = f b := fun b q12 q591 => (congrFun ef_148 b).trans ((up_ne (fun e9 => q12 (by rw [e9]; exact ko0))).trans (hfr0 b q12 q591))
                      have hrA12 : ∀ b, kd b = 12 → ∀ j, fldR (f_148 b) j = fldR (f b) j := fun b kb j => ((congrArg (fun x => fldR x j) (congrFun ef_148 b)).trans (fra_up (fun j => by rw [hfo_140]; exact fr_set (k := 27) rfl rfl) j b)).trans (hrA12 b kb j)
                      have hfA12 : ∀ b, kd b = 12 → ∀ j, j ≠ 27 → j ≠ 29 → fldI (f_148 b) j = fldI (f b) j := fun b kb j n27 n29 => ((congrArg (fun x => fldI x j) (congrFun ef_148 b)).trans (fia_up (fun h9 => by rw [hfo_140]; exact fi_set (k := 27) rfl h9) n27 b)).trans (hfA12 b kb j n27 n29)
                      have hfo_149 : f_148 o0 = .inr (12, [.ref a_1, .ref a_2, .ref a_3, .int v_4, .ref a_5, .int v_6, .int v_7, .int v_8, .int v_9, .int v_10, .int v_11, .int v_12, .int v_13, .int v_14, .int v_15, .ref a_16, .ref a_17, .ref a_18, .ref a_19, .ref a_20, .ref a_21, .ref a_22, .ref a_23, .int v_24, .int v_25, .int v_26, .int v_27, .int 1, .ref a_29, .int x_136, .ref a_31, .ref a_32, .int v_33, .int v_34, .ref a_35, .int v_36, .ref a_37, .ref a_38, .int v_39, .int v_40, .ref a_41, .ref a_42, .ref a_43, .int v_44, .ref a_45, .ref a_46, .ref a_47, .ref a_48, .ref a_49, .ref a_50, .ref a_51, .ref a_52, .ref a_53, .int v_54, .int v_55, .ref a_56]) := by rw [ef_148]; exact up_self
                      exact W.vret hx hb hr (fun t ht hW => ⟨⟨f_148, rfl, ⟨hG, hfr0, hrA12, hfA12, (by intro w27 z27 w29 z29 e27 e29 d27 d29; rw [hfo_57] at e27 e29; rw [hfo_149] at d27 d29; obtain rfl := Option.some.inj e27; obtain rfl := Option.some.inj d27; obtain rfl := Option.some.inj e29; obtain rfl := Option.some.inj d29; (try rw [ti_1]) <;> omega)⟩, by rw [ht]; exact hP, va_K.moved hW.alike hK, pl_in hD⟩, hS.F ht⟩) hS.2.2 dX12_finds_129
                  · skip
                    rw [Int32.le_iff_toInt_le] at c_129
                    refine lv_aload_n hx hb dX12_finds_70 rfl (lv_at hl 3 rfl) ?_
                    refine tk_getP (D := (dC, dI)) (ci := 12) (v := .ref a_29) (C := RX12) (T := TX12) (N := 56) hx hb hU inlX12 hown hK hP mo0 hfo_128 rfl 28 (by decide) (hU _ wd_183) (fun _ h9 => h9) rfl dX12_finds_71 ?_
                    refine lv_iload hx hb dX12_finds_74 (lv_at hl 0 rfl) ?_
                    refine lv_aload_n hx hb dX12_finds_76 rfl (lv_at hl 3 rfl) ?_
                    refine tk_getP (D := (dC, dI)) (ci := 12) (v := .ref a_29) (C := RX12) (T := TX12) (N := 56) hx hb hU inlX12 hown hK hP mo0 hfo_128 rfl 28 (by decide) (hU _ wd_183) (fun _ h9 => h9) rfl dX12_finds_77 ?_
                    refine lv_iload hx hb dX12_finds_80 (lv_at hl 0 rfl) ?_
                    refine lv_iconst (v := 1) hx hb dX12_finds_82 (by decide) ?_
                    refine lv_isub hx hb dX12_finds_83 ?_
                    refine lv_topi (fun x_150 ex_150 => ?_)
                    have hx_150 : x_150.toInt = y_125.toInt - 1 := by rw [ex_150, sb_I (by rw [ti_1]; omega) (by rw [ti_1]; omega), ti_1]
                    have bx_150 : (1 ≤ x_150.toInt ∧ x_150.toInt ≤ 199) := by constructor <;> omega
                    obtain ⟨g_152, hfo_151⟩ := un_591 (hG _ ma_29) ka_29
                    refine tk_lldP hx hb hK hP 1 ma_29 hfo_151 rfl (vp_in_iff.mpr (by constructor <;> omega)) dX12_finds_84 ?_
                    refine lv_topl (fun j_153 ej_153 => ?_)
                    refine tk_lstP hx hb hK hP hD hS 1 ma_29 hfo_151 rfl (vp_in_iff.mpr (by constructor <;> omega)) dX12_finds_85 (fun H locs hP hD hS => ?_)
                    obtain ⟨f_155, ef_155⟩ : ∃ y : Nat → va_E, y = va_up f_127 a_29 (.inl (cL, 201, .inr (.inl (vp_updL g_152 (Int32.toNatClampNeg y_125) j_153)))) := ⟨_, rfl⟩
                    have hP : va_P (dC, dI) vwCl (va_pl L f_155) H := by rw [ef_155]; exact hP
                    have hD : va_D (fun q => q ∈ L) (va_pl L f_155) := by rw [ef_155]; exact hD
                    have hG : GI (okc cI cL cZ cR cG cH L kd) kd L f_155 := by rw [ef_155]; exact hG.set a_29 (mk_591 ka_29 ⟨_, rfl⟩)
                    have hfo_156 : f_155 o0 = .inr (12, [.ref a_1, .ref a_2, .ref a_3, .int v_4, .ref a_5, .int v_6, .int v_7, .int v_8, .int v_9, .int v_10, .int v_11, .int v_12, .int v_13, .int v_14, .int v_15, .ref a_16, .ref a_17, .ref a_18, .ref a_19, .ref a_20, .ref a_21, .ref a_22, .ref a_23, .int v_24, .int v_25, .int v_26, .int v_27, .int v_28, .ref a_29, .int v_30, .ref a_31, .ref a_32, .int v_33, .int v_34, .ref a_35, .int v_36, .ref a_37, .ref a_38, .int v_39, .int v_40, .ref a_41, .ref a_42, .ref a_43, .int v_44, .ref a_45, .ref a_46, .ref a_47, .ref a_48, .ref a_49, .ref a_50, .ref a_51, .ref a_52, .ref a_53, .int v_54, .int v_55, .ref a_56]) := by rw [ef_155, up_ne (kd_ne ka_29 ko0 (by decide))]; exact hfo_128
                    have hfr0 : ∀ b, kd b ≠ 12 → kd b ≠ 591 → f_155 b = f b := fun b q12 q591 => (congrFun ef_155 b).trans ((up_ne (fun e9 => q591 (by rw [e9]; exact ka_29))).trans (hfr0 b q12 q591))
                    have hrA12 : ∀ b, kd b = 12 → ∀ j, fldR (f_155 b) j = fldR (f b) j := fun b kb j => (congrArg (fun x => fldR x j) ((congrFun ef_155 b).trans (up_ne (kd_ne ka_29 kb (by decide))))).trans (hrA12 b kb j)
                    have hfA12 : ∀ b, kd b = 12 → ∀ j, j ≠ 27 → j ≠ 29 → fldI (f_155 b) j = fldI (f b) j := fun b kb j n27 n29 => (congrArg (fun x => fldI x j) ((congrFun ef_155 b).trans (up_ne (kd_ne ka_29 kb (by decide))))).trans (hfA12 b kb j n27 n29)
                    have hfo_157 : f_155 a_29 = .inl (cL, 201, .inr (.inl (vp_updL g_152 (Int32.toNatClampNeg y_125) j_153))) := by rw [ef_155]; exact up_self
                    obtain ⟨x_158, ex_158⟩ : ∃ y : Int32, y_125 + (-1) = y := ⟨_, rfl⟩
                    have hx_158 : x_158.toInt = y_125.toInt + (-1) := by rw [← ex_158, ad_I (by rw [ti_m1]; omega) (by rw [ti_m1]; omega), ti_m1]
                    have bx_158 : (1 ≤ x_158.toInt ∧ x_158.toInt ≤ 199) := by constructor <;> omega
                    refine lv_iinc (v := x_158) (lv' := [(5, .int x_158), (4, .int y_65), (2, .long x_59), (0, .ref o0), (1, .int p1)]) hx hb dX12_finds_86 hl (k := 0) rfl ex_158 (by decide) rfl (fun ls hl => ?_)
                    refine lv_goto (tgt := 63) hx hb dX12_finds_89 (by decide) ?_
                    exact ih_hloop_124 x_158 (by constructor <;> omega) f_155 hG _ _ hP hS hD hfr0 hrA12 hfA12 hfo_156 (by omega) ls (lv_sub hl [0, 1, 2, 3, 4] rfl)
              exact hloop_124 201 v_30 (by constructor <;> omega) f hG _ _ hP hS hD hfr0 hrA12 hfA12 hfo_57 (by omega) ls hl
            · skip
              rw [← Int32.toInt_inj, ti_0] at c_118
              exact W.vret hx hb hr (fun t ht hW => ⟨⟨f, rfl, ⟨hG, hfr0, hrA12, hfA12, (by intro w27 z27 w29 z29 e27 e29 d27 d29; rw [hfo_57] at e27 e29; rw [hfo_57] at d27 d29; obtain rfl := Option.some.inj e27; obtain rfl := Option.some.inj d27; obtain rfl := Option.some.inj e29; obtain rfl := Option.some.inj d29; omega)⟩, by rw [ht]; exact hP, va_K.moved hW.alike hK, pl_in hD⟩, hS.F ht⟩) hS.2.2 dX12_finds_56
        · skip
          rw [Int32.le_iff_toInt_le, ti_0] at c_113
          obtain ⟨x_159, ex_159⟩ : ∃ y : Int32, y_65 + (-1) = y := ⟨_, rfl⟩
          have hx_159 : x_159.toInt = y_65.toInt + (-1) := by rw [← ex_159, ad_I (by rw [ti_m1]; omega) (by rw [ti_m1]; omega), ti_m1]
          have bx_159 : (0 ≤ x_159.toInt ∧ x_159.toInt ≤ 199) := by constructor <;> omega
          refine lv_iinc (v := x_159) (lv' := [(4, .int x_159), (2, .long x_59), (0, .ref o0), (1, .int p1)]) hx hb dX12_finds_31 hl (k := 0) rfl ex_159 (by decide) rfl (fun ls hl => ?_)
          refine lv_goto (tgt := 12) hx hb dX12_finds_34 (by decide) ?_
          exact ih_hloop_64 x_159 (by constructor <;> omega) (by omega) ls (lv_sub hl [0, 1, 2, 3] rfl)
  exact hloop_64 201 v_30 (by constructor <;> omega) (by omega) ls hl
