set_option maxHeartbeats 8000000 in
set_option maxRecDepth 100000 in
theorem s_X0_wordCount_k0 (l : Launch) (D : va_G) (cI cL cZ cR cG cH : ClassId) (Z : zT) (kd : Nat → Nat) (L : List Nat) (f : Nat → va_E) (hG : GI (okc cI cL cZ cR cG cH L kd) kd L f) (o0 : Nat) (mo0 : o0 ∈ L) (ko0 : kd o0 = 0) (p1 : Int32) (bp1 : (0 ≤ p1.toInt ∧ p1.toInt ≤ 8)) : mPI l D cI cL cZ cR cG cH Z yX0_wordCount cX0_wordCount 2 (some .int) 0 0 [.ref o0, .int p1] L f (fun (r : Int32) (f9 : Nat → va_E) => f = f9 ∧ (0 ≤ r.toInt ∧ r.toInt ≤ 72)) := by
  obtain ⟨dC, dI⟩ := D
  refine Met.ofW (cc := cX0_wordCount) (maxL := 2) (ret := (some .int)) (by decide) rfl ?_
  intro p e s m args below meth c s₁ B hml hv
  obtain ⟨rfl, hP, hK, hD0, hN, hZ⟩ := hv
  have hx := B.exec
  have hb := B.bytes
  have hr := B.returns
  have hU : ∀ w ∈ wsU, w.before _ s = true := fun w h => atoms_spec (ws := wU yX0_wordCount cX0_wordCount 2 (some .int)) B.pre w (List.mem_cons_of_mem _ h)
  have hown : s.vm.findClass RX0 = some m.cls := findClass_of_methodNamed B.named
  have hlocks := B.notSynchronized
  have hD := pl_in hD0
  have hS : va_S (fun q => q ∈ L) s.heap s.heap [] := va_S.rf
  have hl := lv_entry ([.ref o0, .int p1]) (n := 2) (Nat.le_of_ble_eq_true rfl)
  rw [lg_entry_eq]
  generalize (lg_sl ([.ref o0, .int p1]) ++ List.replicate (2 - (lg_sl ([.ref o0, .int p1])).length) Slot.unset).toArray = ls at hl ⊢
  have hl : lv_has ls 2 [(0, .ref o0), (1, .int p1)] := hl
  refine lv_aload_n hx hb dX0_wordCount_0 rfl (lv_at hl 0 rfl) ?_
  obtain ⟨a_2, a_3, a_4, v_5, a_6, a_7, a_8, v_9, a_10, v_11, v_12, hfo_1, ⟨ma_2, ka_2⟩, ⟨ma_3, ka_3⟩, ⟨ma_4, ka_4⟩, bv_5, ⟨ma_6, ka_6⟩, ⟨ma_7, ka_7⟩, ⟨ma_8, ka_8⟩, ⟨ma_10, ka_10⟩⟩ := un_0 (hG _ mo0) ko0
  have bv_9 : ((-2147483648) ≤ v_9.toInt ∧ v_9.toInt ≤ 2147483647) := ⟨i32_lo _, i32_hi _⟩
  have bv_11 : ((-2147483648) ≤ v_11.toInt ∧ v_11.toInt ≤ 2147483647) := ⟨i32_lo _, i32_hi _⟩
  have bv_12 : ((-2147483648) ≤ v_12.toInt ∧ v_12.toInt ≤ 2147483647) := ⟨i32_lo _, i32_hi _⟩
  refine tk_getP (D := (dC, dI)) (ci := 0) (v := .int v_11) (C := RX0) (T := TX0) (N := 11) hx hb hU inlX0 hown hK hP mo0 hfo_1 rfl 9 (by decide) (hU _ wd_1194) (fun _ h9 => h9) rfl dX0_wordCount_1 ?_
  refine lv_iconst (v := 2) hx hb dX0_wordCount_4 (by decide) ?_
  refine lv_icmp_ne (tgt := 16) hx hb dX0_wordCount_5 (by decide) (fun c_13 => ?_) (fun c_13 => ?_)
  · skip
    rw [← Int32.toInt_inj, ti_2] at c_13
    refine lv_iload_n hx hb dX0_wordCount_16 rfl (lv_at hl 1 rfl) ?_
    exact W.iret (v := p1) hx hb hr (fun t ht hW => ⟨⟨p1, f, rfl, ⟨rfl, (by constructor <;> omega)⟩, by rw [ht]; exact hP, va_K.moved hW.alike hK, pl_in hD⟩, hS.F ht⟩) hS.2.2 dX0_wordCount_17
  · skip
    rw [← Int32.toInt_inj, ti_2] at c_13
    refine lv_iload_n hx hb dX0_wordCount_8 rfl (lv_at hl 1 rfl) ?_
    refine lv_iload_n hx hb dX0_wordCount_9 rfl (lv_at hl 1 rfl) ?_
    refine lv_iload_n hx hb dX0_wordCount_10 rfl (lv_at hl 1 rfl) ?_
    refine lv_imul hx hb dX0_wordCount_11 ?_
    refine lv_topi (fun x_14 ex_14 => ?_)
    have bx_14 : (0 ≤ x_14.toInt ∧ x_14.toInt ≤ 64) := by rw [ex_14]; exact ml_B (a := 8) (b := 8) (by constructor <;> omega) (by constructor <;> omega) (by decide)
    refine lv_iadd hx hb dX0_wordCount_12 ?_
    refine lv_topi (fun x_15 ex_15 => ?_)
    have hx_15 : x_15.toInt = p1.toInt + x_14.toInt := by rw [ex_15, ad_I (by omega) (by omega)]
    have bx_15 : (0 ≤ x_15.toInt ∧ x_15.toInt ≤ 72) := by constructor <;> omega
    refine lv_goto (tgt := 17) hx hb dX0_wordCount_13 (by decide) ?_
    exact W.iret (v := x_15) hx hb hr (fun t ht hW => ⟨⟨x_15, f, rfl, ⟨rfl, (by constructor <;> omega)⟩, by rw [ht]; exact hP, va_K.moved hW.alike hK, pl_in hD⟩, hS.F ht⟩) hS.2.2 dX0_wordCount_17
set_option maxHeartbeats 8000000 in
set_option maxRecDepth 100000 in
theorem s_X0_numberOf (l : Launch) (D : va_G) (cI cL cZ cR cG cH : ClassId) (Z : zT) (kd : Nat → Nat) (L : List Nat) (f : Nat → va_E) (hG : GI (okc cI cL cZ cR cG cH L kd) kd L f) (p0 : Int32) (bp0 : (0 ≤ p0.toInt ∧ p0.toInt ≤ 8)) (p1 : Int32) (bp1 : (0 ≤ p1.toInt ∧ p1.toInt ≤ 8)) : mPI l D cI cL cZ cR cG cH Z yX0_numberOf cX0_numberOf 2 (some .int) 0 0 [.int p0, .int p1] L f (fun (r : Int32) (f9 : Nat → va_E) => f = f9 ∧ (0 ≤ r.toInt ∧ r.toInt ≤ 72)) := by
  obtain ⟨dC, dI⟩ := D
  refine Met.ofW (cc := cX0_numberOf) (maxL := 2) (ret := (some .int)) (by decide) rfl ?_
  intro p e s m args below meth c s₁ B hml hv
  obtain ⟨rfl, hP, hK, hD0, hN, hZ⟩ := hv
  have hx := B.exec
  have hb := B.bytes
  have hr := B.returns
  have hU : ∀ w ∈ wsU, w.before _ s = true := fun w h => atoms_spec (ws := wU yX0_numberOf cX0_numberOf 2 (some .int)) B.pre w (List.mem_cons_of_mem _ h)
  have hown : s.vm.findClass RX0 = some m.cls := findClass_of_methodNamed B.named
  have hlocks := B.notSynchronized
  have hD := pl_in hD0
  have hS : va_S (fun q => q ∈ L) s.heap s.heap [] := va_S.rf
  have hl := lv_entry ([.int p0, .int p1]) (n := 2) (Nat.le_of_ble_eq_true rfl)
  rw [lg_entry_eq]
  generalize (lg_sl ([.int p0, .int p1]) ++ List.replicate (2 - (lg_sl ([.int p0, .int p1])).length) Slot.unset).toArray = ls at hl ⊢
  have hl : lv_has ls 2 [(0, .int p0), (1, .int p1)] := hl
  refine lv_iload_n hx hb dX0_numberOf_0 rfl (lv_at hl 0 rfl) ?_
  refine lv_if_ne (tgt := 6) hx hb dX0_numberOf_1 (by decide) (fun c_1 => ?_) (fun c_1 => ?_)
  · skip
    rw [← Int32.toInt_inj, ti_0] at c_1
    refine lv_iload_n hx hb dX0_numberOf_6 rfl (lv_at hl 1 rfl) ?_
    refine lv_if_ne (tgt := 14) hx hb dX0_numberOf_7 (by decide) (fun c_2 => ?_) (fun c_2 => ?_)
    · skip
      rw [← Int32.toInt_inj, ti_0] at c_2
      refine lv_bipush (v := 9) hx hb dX0_numberOf_14 (by decide) ?_
      refine lv_iload_n hx hb dX0_numberOf_16 rfl (lv_at hl 0 rfl) ?_
      refine lv_iconst (v := 1) hx hb dX0_numberOf_17 (by decide) ?_
      refine lv_isub hx hb dX0_numberOf_18 ?_
      refine lv_topi (fun x_3 ex_3 => ?_)
      have hx_3 : x_3.toInt = p0.toInt - 1 := by rw [ex_3, sb_I (by rw [ti_1]; omega) (by rw [ti_1]; omega), ti_1]
      have bx_3 : (0 ≤ x_3.toInt ∧ x_3.toInt ≤ 7) := by constructor <;> omega
      refine lv_bipush (v := 8) hx hb dX0_numberOf_19 (by decide) ?_
      refine lv_imul hx hb dX0_numberOf_21 ?_
      refine lv_topi (fun x_4 ex_4 => ?_)
      have hx_4 : x_4.toInt = x_3.toInt * 8 := by rw [ex_4, ml_I (by rw [ti_8]; omega) (by rw [ti_8]; omega), ti_8]
      have bx_4 : (0 ≤ x_4.toInt ∧ x_4.toInt ≤ 56) := by constructor <;> omega
      refine lv_iadd hx hb dX0_numberOf_22 ?_
      refine lv_topi (fun x_5 ex_5 => ?_)
      have hx_5 : x_5.toInt = 9 + x_4.toInt := by rw [ex_5, ad_I (by rw [ti_9]; omega) (by rw [ti_9]; omega), ti_9]
      have bx_5 : (9 ≤ x_5.toInt ∧ x_5.toInt ≤ 65) := by constructor <;> omega
      refine lv_iload_n hx hb dX0_numberOf_23 rfl (lv_at hl 1 rfl) ?_
      refine lv_iadd hx hb dX0_numberOf_24 ?_
      refine lv_topi (fun x_6 ex_6 => ?_)
      have hx_6 : x_6.toInt = x_5.toInt + p1.toInt := by rw [ex_6, ad_I (by omega) (by omega)]
      have bx_6 : (10 ≤ x_6.toInt ∧ x_6.toInt ≤ 73) := by constructor <;> omega
      refine lv_iconst (v := 1) hx hb dX0_numberOf_25 (by decide) ?_
      refine lv_isub hx hb dX0_numberOf_26 ?_
      refine lv_topi (fun x_7 ex_7 => ?_)
      have hx_7 : x_7.toInt = x_6.toInt - 1 := by rw [ex_7, sb_I (by rw [ti_1]; omega) (by rw [ti_1]; omega), ti_1]
      have bx_7 : (9 ≤ x_7.toInt ∧ x_7.toInt ≤ 72) := by constructor <;> omega
      exact W.iret (v := x_7) hx hb hr (fun t ht hW => ⟨⟨x_7, f, rfl, ⟨rfl, (by constructor <;> omega)⟩, by rw [ht]; exact hP, va_K.moved hW.alike hK, pl_in hD⟩, hS.F ht⟩) hS.2.2 dX0_numberOf_27
    · skip
      rw [← Int32.toInt_inj, ti_0] at c_2
      refine lv_iload_n hx hb dX0_numberOf_10 rfl (lv_at hl 0 rfl) ?_
      refine lv_goto (tgt := 27) hx hb dX0_numberOf_11 (by decide) ?_
      exact W.iret (v := p0) hx hb hr (fun t ht hW => ⟨⟨p0, f, rfl, ⟨rfl, (by constructor <;> omega)⟩, by rw [ht]; exact hP, va_K.moved hW.alike hK, pl_in hD⟩, hS.F ht⟩) hS.2.2 dX0_numberOf_27
  · skip
    rw [← Int32.toInt_inj, ti_0] at c_1
    refine lv_iconst (v := 0) hx hb dX0_numberOf_4 (by decide) ?_
    exact W.iret (v := 0) hx hb hr (fun t ht hW => ⟨⟨0, f, rfl, ⟨rfl, (by decide)⟩, by rw [ht]; exact hP, va_K.moved hW.alike hK, pl_in hD⟩, hS.F ht⟩) hS.2.2 dX0_numberOf_5
set_option maxHeartbeats 8000000 in
set_option maxRecDepth 100000 in
theorem s_X0_judge_k0 (l : Launch) (D : va_G) (cI cL cZ cR cG cH : ClassId) (Z : zT) (kd : Nat → Nat) (L : List Nat) (f : Nat → va_E) (hG : GI (okc cI cL cZ cR cG cH L kd) kd L f) (o0 : Nat) (mo0 : o0 ∈ L) (ko0 : kd o0 = 0) (p1 : Int32) (bp1 : (0 ≤ p1.toInt ∧ p1.toInt ≤ 6)) : mPV l D cI cL cZ cR cG cH Z yX0_judge cX0_judge 4 none 1 40 [.ref o0, .int p1] L f (fun (f9 : Nat → va_E) => GI (okc cI cL cZ cR cG cH L kd) kd L f9 ∧ (∀ b, kd b ≠ 0 → kd b ≠ 536 → f9 b = f b)) := by
  obtain ⟨dC, dI⟩ := D
  refine Met.ofW (cc := cX0_judge) (maxL := 4) (ret := none) (by decide) rfl ?_
  intro p e s m args below meth c s₁ B hml hv
  obtain ⟨rfl, hP, hK, hD0, hN, hZ⟩ := hv
  have hx := B.exec
  have hb := B.bytes
  have hr := B.returns
  have hU : ∀ w ∈ wsU, w.before _ s = true := fun w h => atoms_spec (ws := wU yX0_judge cX0_judge 4 none) B.pre w (List.mem_cons_of_mem _ h)
  have hown : s.vm.findClass RX0 = some m.cls := findClass_of_methodNamed B.named
  have hlocks := B.notSynchronized
  have hD := pl_in hD0
  have hS : va_S (fun q => q ∈ L) s.heap s.heap [] := va_S.rf
  have hl := lv_entry ([.ref o0, .int p1]) (n := 4) (Nat.le_of_ble_eq_true rfl)
  rw [lg_entry_eq]
  generalize (lg_sl ([.ref o0, .int p1]) ++ List.replicate (4 - (lg_sl ([.ref o0, .int p1])).length) Slot.unset).toArray = ls at hl ⊢
  have hl : lv_has ls 4 [(0, .ref o0), (1, .int p1)] := hl
  have hfr0 : ∀ b, kd b ≠ 0 → kd b ≠ 536 → f b = f b := fun _ _ _ => rfl
  refine lv_iconst (v := 0) hx hb dX0_judge_0 (by decide) ?_
  refine lv_istore_n (lv' := [(2, .int 0), (0, .ref o0), (1, .int p1)]) hx hb dX0_judge_1 rfl hl (by decide) rfl (fun ls hl => ?_)
  refine lv_iconst (v := 0) hx hb dX0_judge_2 (by decide) ?_
  refine lv_istore_n (lv' := [(3, .int 0), (2, .int 0), (0, .ref o0), (1, .int p1)]) hx hb dX0_judge_3 rfl hl (by decide) rfl (fun ls hl => ?_)
  have hloop_10 : ∀ (n : Nat), ∀ (y_11 : Int32), (0 ≤ y_11.toInt ∧ y_11.toInt ≤ 73) → ∀ (y_12 : Int32), ((-2147483648) ≤ y_12.toInt ∧ y_12.toInt ≤ 2147483647) → 73 - y_11.toInt < (n : Int) → ∀ (ls : Array Slot), lv_has ls 4 [(3, .int y_11), (2, .int y_12), (0, .ref o0), (1, .int p1)] → W p l e (headSpec (wU yX0_judge cX0_judge 4 none) { frames := 1, cells := 0, slots := 0, locals := 40 }).room s m [.ref o0, .int p1].toArray below meth c s.heap [] 0 0 (MQ below (va_Qv (fun (f9 : Nat → va_E) => GI (okc cI cL cZ cR cG cH L kd) kd L f9 ∧ (∀ b, kd b ≠ 0 → kd b ≠ 536 → f9 b = f b)) (qP (dC, dI) cI cL cZ cR cG cH L) (fun q => q ∈ L)) [.ref o0, .int p1].toArray s 0 0 (fun q => q ∈ L)) (F0 m 4 ls []) := by
    intro n
    induction n with
    | zero => intro y_11 by_11 y_12 by_12 hmuhloop_10 ls hl; exfalso; omega
    | succ n ih_hloop_10 =>
      intro y_11 by_11 y_12 by_12 hmuhloop_10 ls hl
      refine lv_iload_n hx hb dX0_judge_4 rfl (lv_at hl 0 rfl) ?_
      refine lv_bipush (v := 73) hx hb dX0_judge_5 (by decide) ?_
      refine lv_icmp_ge (tgt := 40) hx hb dX0_judge_7 (by decide) (fun c_13 => ?_) (fun c_13 => ?_)
      · skip
        rw [Int32.le_iff_toInt_le, ti_73] at c_13
        refine lv_iload_n hx hb dX0_judge_40 rfl (lv_at hl 1 rfl) ?_
        refine lv_aload_n hx hb dX0_judge_41 rfl (lv_at hl 2 rfl) ?_
        obtain ⟨a_15, a_16, a_17, v_18, a_19, a_20, a_21, v_22, a_23, v_24, v_25, hfo_14, ⟨ma_15, ka_15⟩, ⟨ma_16, ka_16⟩, ⟨ma_17, ka_17⟩, bv_18, ⟨ma_19, ka_19⟩, ⟨ma_20, ka_20⟩, ⟨ma_21, ka_21⟩, ⟨ma_23, ka_23⟩⟩ := un_0 (hG _ mo0) ko0
        have bv_22 : ((-2147483648) ≤ v_22.toInt ∧ v_22.toInt ≤ 2147483647) := ⟨i32_lo _, i32_hi _⟩
        have bv_24 : ((-2147483648) ≤ v_24.toInt ∧ v_24.toInt ≤ 2147483647) := ⟨i32_lo _, i32_hi _⟩
        have bv_25 : ((-2147483648) ≤ v_25.toInt ∧ v_25.toInt ≤ 2147483647) := ⟨i32_lo _, i32_hi _⟩
        refine tk_getP (D := (dC, dI)) (ci := 0) (v := .int v_22) (C := RX0) (T := TX0) (N := 11) hx hb hU inlX0 hown hK hP mo0 hfo_14 rfl 7 (by decide) (hU _ wd_1199) (fun _ h9 => h9) rfl dX0_judge_42 ?_
        have hcut_28 : ∀ (f_27 : Nat → va_E), GI (okc cI cL cZ cR cG cH L kd) kd L f_27 → ∀ (H : Heap) (locs : List Loc), va_P (dC, dI) vwCl (va_pl L f_27) H → va_S (fun q => q ∈ L) s.heap H locs → va_D (fun q => q ∈ L) (va_pl L f_27) → (∀ b, kd b ≠ 0 → kd b ≠ 536 → f_27 b = f b) → ∀ (ls : Array Slot), lv_has ls 4 [(3, .int y_11), (2, .int y_12), (0, .ref o0), (1, .int p1)] → W p l e (headSpec (wU yX0_judge cX0_judge 4 none) { frames := 1, cells := 0, slots := 0, locals := 40 }).room s m [.ref o0, .int p1].toArray below meth c H locs 0 0 (MQ below (va_Qv (fun (f9 : Nat → va_E) => GI (okc cI cL cZ cR cG cH L kd) kd L f9 ∧ (∀ b, kd b ≠ 0 → kd b ≠ 536 → f9 b = f b)) (qP (dC, dI) cI cL cZ cR cG cH L) (fun q => q ∈ L)) [.ref o0, .int p1].toArray s 0 0 (fun q => q ∈ L)) (F0 m 70 ls []) := by
          intro f_27 hG H locs hP hS hD hfr0 ls hl
          exact W.vret hx hb hr (fun t ht hW => ⟨⟨f_27, rfl, ⟨hG, hfr0⟩, by rw [ht]; exact hP, va_K.moved hW.alike hK, pl_in hD⟩, hS.F ht⟩) hS.2.2 dX0_judge_70
        refine lv_icmp_le (tgt := 70) hx hb dX0_judge_45 (by decide) (fun c_29 => ?_) (fun c_29 => ?_)
        · skip
          rw [Int32.le_iff_toInt_le] at c_29
          exact hcut_28 f hG _ _ hP hS hD hfr0 ls (lv_sub hl [0, 1, 2, 3] rfl)
        · skip
          rw [Int32.le_iff_toInt_le] at c_29
          refine lv_aload_n hx hb dX0_judge_48 rfl (lv_at hl 2 rfl) ?_
          refine lv_iload_n hx hb dX0_judge_49 rfl (lv_at hl 1 rfl) ?_
          refine tk_putP (D := (dC, dI)) (ci := 0) (v := .int y_12) (ty := .int) (C := RX0) (T := TX0) (N := 11) hx hb hU inlX0 tyX0 tyX0_ok nmX0 hown hK hP hD hS mo0 hfo_14 rfl 7 (by decide) (hU _ wd_1199) (fun _ h9 => h9) rfl (by decide +kernel) rfl rfl (Nat.le_of_ble_eq_true rfl) dX0_judge_50 (fun H locs hP hD hS => ?_)
          obtain ⟨f_31, ef_31⟩ : ∃ y : Nat → va_E, y = va_up f o0 (.inr (0, [.ref a_15, .ref a_16, .ref a_17, .int v_18, .ref a_19, .ref a_20, .ref a_21, .int y_12, .ref a_23, .int v_24, .int v_25])) := ⟨_, rfl⟩
          have hP : va_P (dC, dI) vwCl (va_pl L f_31) H := by rw [ef_31]; exact hP
          have hD : va_D (fun q => q ∈ L) (va_pl L f_31) := by rw [ef_31]; exact hD
          have hG : GI (okc cI cL cZ cR cG cH L kd) kd L f_31 := by rw [ef_31]; exact hG.set o0 (mk_0 ko0 ⟨a_15, a_16, a_17, v_18, a_19, a_20, a_21, y_12, a_23, v_24, v_25, rfl, ⟨ma_15, ka_15⟩, ⟨ma_16, ka_16⟩, ⟨ma_17, ka_17⟩, (by constructor <;> omega), ⟨ma_19, ka_19⟩, ⟨ma_20, ka_20⟩, ⟨ma_21, ka_21⟩, ⟨ma_23, ka_23⟩⟩)
          have hfr0 : ∀ b, kd b ≠ 0 → kd b ≠ 536 → f_31 b = f b := fun b q0 q536 => (congrFun ef_31 b).trans ((up_ne (fun e9 => q0 (by rw [e9]; exact ko0))).trans (hfr0 b q0 q536))
          have hfo_32 : f_31 o0 = .inr (0, [.ref a_15, .ref a_16, .ref a_17, .int v_18, .ref a_19, .ref a_20, .ref a_21, .int y_12, .ref a_23, .int v_24, .int v_25]) := by rw [ef_31]; exact up_self
          refine lv_aload_n hx hb dX0_judge_53 rfl (lv_at hl 2 rfl) ?_
          refine tk_getP (D := (dC, dI)) (ci := 0) (v := .ref a_19) (C := RX0) (T := TX0) (N := 11) hx hb hU inlX0 hown hK hP mo0 hfo_32 rfl 4 (by decide) (hU _ wd_160) (fun _ h9 => h9) rfl dX0_judge_54 ?_
          refine lv_iconst (v := 0) hx hb dX0_judge_57 (by decide) ?_
          refine lv_aload_n hx hb dX0_judge_58 rfl (lv_at hl 2 rfl) ?_
          refine tk_getP (D := (dC, dI)) (ci := 0) (v := .ref a_21) (C := RX0) (T := TX0) (N := 11) hx hb hU inlX0 hown hK hP mo0 hfo_32 rfl 6 (by decide) (hU _ wd_162) (fun _ h9 => h9) rfl dX0_judge_59 ?_
          refine lv_iconst (v := 0) hx hb dX0_judge_62 (by decide) ?_
          refine lv_aload_n hx hb dX0_judge_63 rfl (lv_at hl 2 rfl) ?_
          refine tk_getP (D := (dC, dI)) (ci := 0) (v := .int v_18) (C := RX0) (T := TX0) (N := 11) hx hb hU inlX0 hown hK hP mo0 hfo_32 rfl 3 (by decide) (hU _ wd_1195) (fun _ h9 => h9) rfl dX0_judge_64 ?_
          obtain ⟨g_34, hfo_33, hbg_34⟩ := un_536 (hG _ ma_19) ka_19
          obtain ⟨g_36, hfo_35, hbg_36⟩ := un_536 (hG _ ma_21) ka_21
          refine tk_copyP hx hb (by rw [hml]; exact hl.1.symm) hown (hU _ wd_1232) (hU _ wd_253) (hU _ wd_254) (hU _ wd_255) hK hP hD hS 0 ma_19 ma_21 hfo_33 hfo_35 rfl (by decide) (by decide) (by rw [Int32.lt_iff_toInt_lt, ti_0]; omega) (cp_ok (by rw [ti_0]; omega) (by omega) (by rw [ti_0]; omega)) (cp_ok (by rw [ti_0]; omega) (by omega) (by rw [ti_0]; omega)) (Nat.le_of_ble_eq_true rfl) (Nat.le_of_ble_eq_true rfl) dX0_judge_67 (fun H locs hP hD hS => ?_)
          obtain ⟨f_38, ef_38⟩ : ∃ y : Nat → va_E, y = va_up f_31 a_21 (.inl (cI, 6, .inl (va_cpy g_34 g_36 (Int32.toNatClampNeg 0) (Int32.toNatClampNeg 0) (Int32.toNatClampNeg v_18)))) := ⟨_, rfl⟩
          have hP : va_P (dC, dI) vwCl (va_pl L f_38) H := by rw [ef_38]; exact hP
          have hD : va_D (fun q => q ∈ L) (va_pl L f_38) := by rw [ef_38]; exact hD
          have hG : GI (okc cI cL cZ cR cG cH L kd) kd L f_38 := by rw [ef_38]; exact hG.set a_21 (mk_536 ka_21 ⟨_, rfl, okI_cpy (fun j => by have := hbg_34 j; constructor <;> omega) hbg_36 _ _ _⟩)
          have hfo_39 : f_38 o0 = .inr (0, [.ref a_15, .ref a_16, .ref a_17, .int v_18, .ref a_19, .ref a_20, .ref a_21, .int y_12, .ref a_23, .int v_24, .int v_25]) := by rw [ef_38, up_ne (kd_ne ka_21 ko0 (by decide))]; exact hfo_32
          have hfr0 : ∀ b, kd b ≠ 0 → kd b ≠ 536 → f_38 b = f b := fun b q0 q536 => (congrFun ef_38 b).trans ((up_ne (fun e9 => q536 (by rw [e9]; exact ka_21))).trans (hfr0 b q0 q536))
          have hfo_40 : f_38 a_21 = .inl (cI, 6, .inl (va_cpy g_34 g_36 (Int32.toNatClampNeg 0) (Int32.toNatClampNeg 0) (Int32.toNatClampNeg v_18))) := by rw [ef_38]; exact up_self
          exact hcut_28 f_38 hG _ _ hP hS hD hfr0 ls (lv_sub hl [0, 1, 2, 3] rfl)
      · skip
        rw [Int32.le_iff_toInt_le, ti_73] at c_13
        refine lv_iload_n hx hb dX0_judge_10 rfl (lv_at hl 1 rfl) ?_
        refine lv_aload_n hx hb dX0_judge_11 rfl (lv_at hl 2 rfl) ?_
        obtain ⟨a_42, a_43, a_44, v_45, a_46, a_47, a_48, v_49, a_50, v_51, v_52, hfo_41, ⟨ma_42, ka_42⟩, ⟨ma_43, ka_43⟩, ⟨ma_44, ka_44⟩, bv_45, ⟨ma_46, ka_46⟩, ⟨ma_47, ka_47⟩, ⟨ma_48, ka_48⟩, ⟨ma_50, ka_50⟩⟩ := un_0 (hG _ mo0) ko0
        have bv_49 : ((-2147483648) ≤ v_49.toInt ∧ v_49.toInt ≤ 2147483647) := ⟨i32_lo _, i32_hi _⟩
        have bv_51 : ((-2147483648) ≤ v_51.toInt ∧ v_51.toInt ≤ 2147483647) := ⟨i32_lo _, i32_hi _⟩
        have bv_52 : ((-2147483648) ≤ v_52.toInt ∧ v_52.toInt ≤ 2147483647) := ⟨i32_lo _, i32_hi _⟩
        refine tk_getP (D := (dC, dI)) (ci := 0) (v := .ref a_43) (C := RX0) (T := TX0) (N := 11) hx hb hU inlX0 hown hK hP mo0 hfo_41 rfl 1 (by decide) (hU _ wd_158) (fun _ h9 => h9) rfl dX0_judge_12 ?_
        refine lv_iload_n hx hb dX0_judge_15 rfl (lv_at hl 0 rfl) ?_
        refine lv_bipush (v := 73) hx hb dX0_judge_16 (by decide) ?_
        refine lv_imul hx hb dX0_judge_18 ?_
        refine lv_topi (fun x_53 ex_53 => ?_)
        have hx_53 : x_53.toInt = y_11.toInt * 73 := by rw [ex_53, ml_I (by rw [ti_73]; omega) (by rw [ti_73]; omega), ti_73]
        have bx_53 : (0 ≤ x_53.toInt ∧ x_53.toInt ≤ 5256) := by constructor <;> omega
        refine lv_aload_n hx hb dX0_judge_19 rfl (lv_at hl 2 rfl) ?_
        refine tk_getP (D := (dC, dI)) (ci := 0) (v := .ref a_47) (C := RX0) (T := TX0) (N := 11) hx hb hU inlX0 hown hK hP mo0 hfo_41 rfl 5 (by decide) (hU _ wd_161) (fun _ h9 => h9) rfl dX0_judge_20 ?_
        refine lv_iload_n hx hb dX0_judge_23 rfl (lv_at hl 3 rfl) ?_
        refine lv_bipush (v := 73) hx hb dX0_judge_24 (by decide) ?_
        refine lv_imul hx hb dX0_judge_26 ?_
        refine lv_topi (fun x_54 ex_54 => ?_)
        have hx_54 : x_54.toInt = p1.toInt * 73 := by rw [ex_54, ml_I (by rw [ti_73]; omega) (by rw [ti_73]; omega), ti_73]
        have bx_54 : (0 ≤ x_54.toInt ∧ x_54.toInt ≤ 438) := by constructor <;> omega
        refine lv_iload_n hx hb dX0_judge_27 rfl (lv_at hl 0 rfl) ?_
        refine lv_iadd hx hb dX0_judge_28 ?_
        refine lv_topi (fun x_55 ex_55 => ?_)
        have hx_55 : x_55.toInt = x_54.toInt + y_11.toInt := by rw [ex_55, ad_I (by omega) (by omega)]
        have bx_55 : (0 ≤ x_55.toInt ∧ x_55.toInt ≤ 510) := by constructor <;> omega
        obtain ⟨g_57, hfo_56, hbg_57⟩ := un_537 (hG _ ma_47) ka_47
        refine tk_ildP hx hb hK hP 0 ma_47 hfo_56 rfl (vp_in_iff.mpr (by constructor <;> omega)) dX0_judge_29 ?_
        refine lv_topi (fun x_58 ex_58 => ?_)
        have bx_58 : (0 ≤ x_58.toInt ∧ x_58.toInt ≤ 72) := by rw [ex_58]; exact hbg_57 _
        refine lv_iadd hx hb dX0_judge_30 ?_
        refine lv_topi (fun x_59 ex_59 => ?_)
        have hx_59 : x_59.toInt = x_53.toInt + x_58.toInt := by rw [ex_59, ad_I (by omega) (by omega)]
        have bx_59 : (0 ≤ x_59.toInt ∧ x_59.toInt ≤ 5328) := by constructor <;> omega
        obtain ⟨g_61, hfo_60, hbg_61⟩ := un_535 (hG _ ma_43) ka_43
        refine tk_ildP hx hb hK hP 0 ma_43 hfo_60 rfl (vp_in_iff.mpr (by constructor <;> omega)) dX0_judge_31 ?_
        refine lv_topi (fun x_62 ex_62 => ?_)
        have bx_62 : (0 ≤ x_62.toInt ∧ x_62.toInt ≤ 1) := by rw [ex_62]; exact hbg_61 _
        refine lv_iadd hx hb dX0_judge_32 ?_
        refine lv_topi (fun x_63 ex_63 => ?_)
        have bx_63 : ((-2147483648) ≤ x_63.toInt ∧ x_63.toInt ≤ 2147483647) := ⟨i32_lo _, i32_hi _⟩
        refine lv_istore_n (lv' := [(2, .int x_63), (3, .int y_11), (0, .ref o0), (1, .int p1)]) hx hb dX0_judge_33 rfl hl (by decide) rfl (fun ls hl => ?_)
        obtain ⟨x_64, ex_64⟩ : ∃ y : Int32, y_11 + 1 = y := ⟨_, rfl⟩
        have hx_64 : x_64.toInt = y_11.toInt + 1 := by rw [← ex_64, ad_I (by rw [ti_1]; omega) (by rw [ti_1]; omega), ti_1]
        have bx_64 : (1 ≤ x_64.toInt ∧ x_64.toInt ≤ 73) := by constructor <;> omega
        refine lv_iinc (v := x_64) (lv' := [(3, .int x_64), (2, .int x_63), (0, .ref o0), (1, .int p1)]) hx hb dX0_judge_34 hl (k := 1) rfl ex_64 (by decide) rfl (fun ls hl => ?_)
        refine lv_goto (tgt := 4) hx hb dX0_judge_37 (by decide) ?_
        exact ih_hloop_10 x_64 (by constructor <;> omega) x_63 (by constructor <;> omega) (by omega) ls (lv_sub hl [0, 1, 2, 3] rfl)
  exact hloop_10 74 0 (by decide) 0 (by decide) (by (try rw [ti_0]) <;> omega) ls hl
set_option maxHeartbeats 8000000 in
set_option maxRecDepth 100000 in
theorem s_X6_restart_k6 (l : Launch) (D : va_G) (cI cL cZ cR cG cH : ClassId) (Z : zT) (kd : Nat → Nat) (L : List Nat) (f : Nat → va_E) (hG : GI (okc cI cL cZ cR cG cH L kd) kd L f) (o0 : Nat) (mo0 : o0 ∈ L) (ko0 : kd o0 = 6) (p1 : Int32) (bp1 : (0 ≤ p1.toInt ∧ p1.toInt ≤ 8)) : mPV l D cI cL cZ cR cG cH Z yX6_restart cX6_restart 3 none 1 20 [.ref o0, .int p1] L f (fun (f9 : Nat → va_E) => GI (okc cI cL cZ cR cG cH L kd) kd L f9 ∧ (∀ b, kd b ≠ 6 → kd b ≠ 9 → kd b ≠ 530 → f9 b = f b)) := by
  obtain ⟨dC, dI⟩ := D
  refine Met.ofW (cc := cX6_restart) (maxL := 3) (ret := none) (by decide) rfl ?_
  intro p e s m args below meth c s₁ B hml hv
  obtain ⟨rfl, hP, hK, hD0, hN, hZ⟩ := hv
  have hx := B.exec
  have hb := B.bytes
  have hr := B.returns
  have hU : ∀ w ∈ wsU, w.before _ s = true := fun w h => atoms_spec (ws := wU yX6_restart cX6_restart 3 none) B.pre w (List.mem_cons_of_mem _ h)
  have hown : s.vm.findClass RX6 = some m.cls := findClass_of_methodNamed B.named
  have hlocks := B.notSynchronized
  have hD := pl_in hD0
  have hS : va_S (fun q => q ∈ L) s.heap s.heap [] := va_S.rf
  have hl := lv_entry ([.ref o0, .int p1]) (n := 3) (Nat.le_of_ble_eq_true rfl)
  rw [lg_entry_eq]
  generalize (lg_sl ([.ref o0, .int p1]) ++ List.replicate (3 - (lg_sl ([.ref o0, .int p1])).length) Slot.unset).toArray = ls at hl ⊢
  have hl : lv_has ls 3 [(0, .ref o0), (1, .int p1)] := hl
  have hfr0 : ∀ b, kd b ≠ 6 → kd b ≠ 9 → kd b ≠ 530 → f b = f b := fun _ _ _ _ => rfl
  refine lv_aload_n hx hb dX6_restart_0 rfl (lv_at hl 0 rfl) ?_
  refine lv_iconst (v := 1) hx hb dX6_restart_1 (by decide) ?_
  refine lv_iload_n hx hb dX6_restart_2 rfl (lv_at hl 1 rfl) ?_
  refine lv_ishl hx hb dX6_restart_3 ?_
  refine lv_topi (fun x_1 ex_1 => ?_)
  have bx_1 : (1 ≤ x_1.toInt ∧ x_1.toInt ≤ 256) := by rw [ex_1]; exact sh_8 (by constructor <;> omega)
  refine lv_iconst (v := 1) hx hb dX6_restart_4 (by decide) ?_
  refine lv_isub hx hb dX6_restart_5 ?_
  refine lv_topi (fun x_2 ex_2 => ?_)
  have hx_2 : x_2.toInt = x_1.toInt - 1 := by rw [ex_2, sb_I (by rw [ti_1]; omega) (by rw [ti_1]; omega), ti_1]
  have bx_2 : (0 ≤ x_2.toInt ∧ x_2.toInt ≤ 255) := by constructor <;> omega
  obtain ⟨v_4, v_5, a_6, a_7, a_8, v_9, a_10, a_11, a_12, hfo_3, bv_5, ⟨ma_6, ka_6⟩, ⟨ma_7, ka_7⟩, ⟨ma_8, ka_8⟩, ⟨ma_10, ka_10⟩, ⟨ma_11, ka_11⟩, ⟨ma_12, ka_12⟩⟩ := un_6 (hG _ mo0) ko0
  have bv_4 : ((-2147483648) ≤ v_4.toInt ∧ v_4.toInt ≤ 2147483647) := ⟨i32_lo _, i32_hi _⟩
  have bv_9 : ((-2147483648) ≤ v_9.toInt ∧ v_9.toInt ≤ 2147483647) := ⟨i32_lo _, i32_hi _⟩
  refine tk_putP (D := (dC, dI)) (ci := 6) (v := .int x_2) (ty := .int) (C := RX6) (T := TX6) (N := 9) hx hb hU inlX6 tyX6 tyX6_ok nmX6 hown hK hP hD hS mo0 hfo_3 rfl 0 (by decide) (hU _ wd_553) (fun _ h9 => h9) rfl (by decide +kernel) rfl rfl (Nat.le_of_ble_eq_true rfl) dX6_restart_6 (fun H locs hP hD hS => ?_)
  obtain ⟨f_14, ef_14⟩ : ∃ y : Nat → va_E, y = va_up f o0 (.inr (6, [.int x_2, .int v_5, .ref a_6, .ref a_7, .ref a_8, .int v_9, .ref a_10, .ref a_11, .ref a_12])) := ⟨_, rfl⟩
  have hP : va_P (dC, dI) vwCl (va_pl L f_14) H := by rw [ef_14]; exact hP
  have hD : va_D (fun q => q ∈ L) (va_pl L f_14) := by rw [ef_14]; exact hD
  have hG : GI (okc cI cL cZ cR cG cH L kd) kd L f_14 := by rw [ef_14]; exact hG.set o0 (mk_6 ko0 ⟨x_2, v_5, a_6, a_7, a_8, v_9, a_10, a_11, a_12, rfl, (by constructor <;> omega), ⟨ma_6, ka_6⟩, ⟨ma_7, ka_7⟩, ⟨ma_8, ka_8⟩, ⟨ma_10, ka_10⟩, ⟨ma_11, ka_11⟩, ⟨ma_12, ka_12⟩⟩)
  have hfr0 : ∀ b, kd b ≠ 6 → kd b ≠ 9 → kd b ≠ 530 → f_14 b = f b := fun b q6 q9 q530 => (congrFun ef_14 b).trans ((up_ne (fun e9 => q6 (by rw [e9]; exact ko0))).trans (hfr0 b q6 q9 q530))
  have hfo_15 : f_14 o0 = .inr (6, [.int x_2, .int v_5, .ref a_6, .ref a_7, .ref a_8, .int v_9, .ref a_10, .ref a_11, .ref a_12]) := by rw [ef_14]; exact up_self
  refine lv_iconst (v := 0) hx hb dX6_restart_9 (by decide) ?_
  refine lv_istore_n (lv' := [(2, .int 0), (0, .ref o0), (1, .int p1)]) hx hb dX6_restart_10 rfl hl (by decide) rfl (fun ls hl => ?_)
  have hloop_31 : ∀ (n : Nat), ∀ (y_32 : Int32), (0 ≤ y_32.toInt ∧ y_32.toInt ≤ 8) → ∀ (f_34 : Nat → va_E), GI (okc cI cL cZ cR cG cH L kd) kd L f_34 → ∀ (H : Heap) (locs : List Loc), va_P (dC, dI) vwCl (va_pl L f_34) H → va_S (fun q => q ∈ L) s.heap H locs → va_D (fun q => q ∈ L) (va_pl L f_34) → (∀ b, kd b ≠ 6 → kd b ≠ 9 → kd b ≠ 530 → f_34 b = f b) → (f_34 o0 = .inr (6, [.int x_2, .int v_5, .ref a_6, .ref a_7, .ref a_8, .int v_9, .ref a_10, .ref a_11, .ref a_12])) → 8 - y_32.toInt < (n : Int) → ∀ (ls : Array Slot), lv_has ls 3 [(2, .int y_32), (0, .ref o0), (1, .int p1)] → W p l e (headSpec (wU yX6_restart cX6_restart 3 none) { frames := 1, cells := 0, slots := 0, locals := 20 }).room s m [.ref o0, .int p1].toArray below meth c H locs 0 0 (MQ below (va_Qv (fun (f9 : Nat → va_E) => GI (okc cI cL cZ cR cG cH L kd) kd L f9 ∧ (∀ b, kd b ≠ 6 → kd b ≠ 9 → kd b ≠ 530 → f9 b = f b)) (qP (dC, dI) cI cL cZ cR cG cH L) (fun q => q ∈ L)) [.ref o0, .int p1].toArray s 0 0 (fun q => q ∈ L)) (F0 m 11 ls []) := by
    intro n
    induction n with
    | zero => intro y_32 by_32 f_34 hG H locs hP hS hD hfr0 hfo_35 hmuhloop_31 ls hl; exfalso; omega
    | succ n ih_hloop_31 =>
      intro y_32 by_32 f_34 hG H locs hP hS hD hfr0 hfo_35 hmuhloop_31 ls hl
      refine lv_iload_n hx hb dX6_restart_11 rfl (lv_at hl 0 rfl) ?_
      refine lv_bipush (v := 8) hx hb dX6_restart_12 (by decide) ?_
      refine lv_icmp_ge (tgt := 30) hx hb dX6_restart_14 (by decide) (fun c_36 => ?_) (fun c_36 => ?_)
      · skip
        rw [Int32.le_iff_toInt_le, ti_8] at c_36
        refine lv_aload_n hx hb dX6_restart_30 rfl (lv_at hl 1 rfl) ?_
        refine tk_getP (D := (dC, dI)) (ci := 6) (v := .ref a_7) (C := RX6) (T := TX6) (N := 9) hx hb hU inlX6 hown hK hP mo0 hfo_35 rfl 3 (by decide) (hU _ wd_139) (fun _ h9 => h9) rfl dX6_restart_31 ?_
        obtain ⟨a_38, a_39, v_40, hfo_37, ⟨ma_38, ka_38⟩, ⟨ma_39, ka_39⟩, bv_40⟩ := un_9 (hG _ ma_7) ka_7
        refine tk_VvP (As := []) (rest := []) (n := 0) hx hb hml hown hU hN hZ (s_X9_clear_k9 l (dC, dI) cI cL cZ cR cG cH Z kd L f_34 hG a_7 ma_7 ka_7) wd_555 wd_270 wd_271 wd_85 wd_272 (by decide +kernel) ⟨Nat.le_of_ble_eq_true rfl, Nat.le_of_ble_eq_true rfl⟩ hK hP hD hS ma_7 hfo_37 9 rfl rfl rfl hl.1 rfl (Nat.le_of_ble_eq_true rfl) dX6_restart_34 ⟨Nat.le_of_ble_eq_true rfl, Nat.le_of_ble_eq_true rfl⟩ (fun f_42 H locs hw hP hD hS => ?_)
        obtain ⟨hG, hkc_43⟩ := hw
        have hfo_45 : f_42 o0 = .inr (6, [.int x_2, .int v_5, .ref a_6, .ref a_7, .ref a_8, .int v_9, .ref a_10, .ref a_11, .ref a_12]) := by rw [hkc_43 o0 (by rw [ko0]; decide)]; exact hfo_35
        have hfr0 : ∀ b, kd b ≠ 6 → kd b ≠ 9 → kd b ≠ 530 → f_42 b = f b := fun b q6 q9 q530 => (hkc_43 b q9).trans (hfr0 b q6 q9 q530)
        refine lv_aload_n hx hb dX6_restart_37 rfl (lv_at hl 1 rfl) ?_
        refine tk_getP (D := (dC, dI)) (ci := 6) (v := .ref a_8) (C := RX6) (T := TX6) (N := 9) hx hb hU inlX6 hown hK hP mo0 hfo_45 rfl 4 (by decide) (hU _ wd_140) (fun _ h9 => h9) rfl dX6_restart_38 ?_
        obtain ⟨a_47, a_48, v_49, hfo_46, ⟨ma_47, ka_47⟩, ⟨ma_48, ka_48⟩, bv_49⟩ := un_9 (hG _ ma_8) ka_8
        refine tk_VvP (As := []) (rest := []) (n := 0) hx hb hml hown hU hN hZ (s_X9_clear_k9 l (dC, dI) cI cL cZ cR cG cH Z kd L f_42 hG a_8 ma_8 ka_8) wd_555 wd_270 wd_271 wd_85 wd_272 (by decide +kernel) ⟨Nat.le_of_ble_eq_true rfl, Nat.le_of_ble_eq_true rfl⟩ hK hP hD hS ma_8 hfo_46 9 rfl rfl rfl hl.1 rfl (Nat.le_of_ble_eq_true rfl) dX6_restart_41 ⟨Nat.le_of_ble_eq_true rfl, Nat.le_of_ble_eq_true rfl⟩ (fun f_51 H locs hw hP hD hS => ?_)
        obtain ⟨hG, hkc_52⟩ := hw
        have hfo_54 : f_51 o0 = .inr (6, [.int x_2, .int v_5, .ref a_6, .ref a_7, .ref a_8, .int v_9, .ref a_10, .ref a_11, .ref a_12]) := by rw [hkc_52 o0 (by rw [ko0]; decide)]; exact hfo_45
        have hfr0 : ∀ b, kd b ≠ 6 → kd b ≠ 9 → kd b ≠ 530 → f_51 b = f b := fun b q6 q9 q530 => (hkc_52 b q9).trans (hfr0 b q6 q9 q530)
        refine lv_aload_n hx hb dX6_restart_44 rfl (lv_at hl 1 rfl) ?_
        refine lv_iconst (v := 0) hx hb dX6_restart_45 (by decide) ?_
        refine tk_putP (D := (dC, dI)) (ci := 6) (v := .int 0) (ty := .int) (C := RX6) (T := TX6) (N := 9) hx hb hU inlX6 tyX6 tyX6_ok nmX6 hown hK hP hD hS mo0 hfo_54 rfl 5 (by decide) (hU _ wd_554) (fun _ h9 => h9) rfl (by decide +kernel) rfl rfl (Nat.le_of_ble_eq_true rfl) dX6_restart_46 (fun H locs hP hD hS => ?_)
        obtain ⟨f_56, ef_56⟩ : ∃ y : Nat → va_E, y = va_up f_51 o0 (.inr (6, [.int x_2, .int v_5, .ref a_6, .ref a_7, .ref a_8, .int 0, .ref a_10, .ref a_11, .ref a_12])) := ⟨_, rfl⟩
        have hP : va_P (dC, dI) vwCl (va_pl L f_56) H := by rw [ef_56]; exact hP
        have hD : va_D (fun q => q ∈ L) (va_pl L f_56) := by rw [ef_56]; exact hD
        have hG : GI (okc cI cL cZ cR cG cH L kd) kd L f_56 := by rw [ef_56]; exact hG.set o0 (mk_6 ko0 ⟨x_2, v_5, a_6, a_7, a_8, 0, a_10, a_11, a_12, rfl, (by constructor <;> omega), ⟨ma_6, ka_6⟩, ⟨ma_7, ka_7⟩, ⟨ma_8, ka_8⟩, ⟨ma_10, ka_10⟩, ⟨ma_11, ka_11⟩, ⟨ma_12, ka_12⟩⟩)
        have hfr0 : ∀ b, kd b ≠ 6 → kd b ≠ 9 → kd b ≠ 530 → f_56 b = f b := fun b q6 q9 q530 => (congrFun ef_56 b).trans ((up_ne (fun e9 => q6 (by rw [e9]; exact ko0))).trans (hfr0 b q6 q9 q530))
        have hfo_57 : f_56 o0 = .inr (6, [.int x_2, .int v_5, .ref a_6, .ref a_7, .ref a_8, .int 0, .ref a_10, .ref a_11, .ref a_12]) := by rw [ef_56]; exact up_self
        exact W.vret hx hb hr (fun t ht hW => ⟨⟨f_56, rfl, ⟨hG, hfr0⟩, by rw [ht]; exact hP, va_K.moved hW.alike hK, pl_in hD⟩, hS.F ht⟩) hS.2.2 dX6_restart_49
      · skip
        rw [Int32.le_iff_toInt_le, ti_8] at c_36
        refine lv_aload_n hx hb dX6_restart_17 rfl (lv_at hl 1 rfl) ?_
        refine tk_getP (D := (dC, dI)) (ci := 6) (v := .ref a_6) (C := RX6) (T := TX6) (N := 9) hx hb hU inlX6 hown hK hP mo0 hfo_35 rfl 2 (by decide) (hU _ wd_137) (fun _ h9 => h9) rfl dX6_restart_18 ?_
        refine lv_iload_n hx hb dX6_restart_21 rfl (lv_at hl 0 rfl) ?_
        refine lv_iload_n hx hb dX6_restart_22 rfl (lv_at hl 0 rfl) ?_
        obtain ⟨g_59, hfo_58, hbg_59⟩ := un_530 (hG _ ma_6) ka_6
        refine tk_istP hx hb hK hP hD hS 0 ma_6 hfo_58 rfl (vp_in_iff.mpr (by constructor <;> omega)) dX6_restart_23 (fun H locs hP hD hS => ?_)
        obtain ⟨f_61, ef_61⟩ : ∃ y : Nat → va_E, y = va_up f_34 a_6 (.inl (cI, 8, .inl (upd g_59 (Int32.toNatClampNeg y_32) y_32))) := ⟨_, rfl⟩
        have hP : va_P (dC, dI) vwCl (va_pl L f_61) H := by rw [ef_61]; exact hP
        have hD : va_D (fun q => q ∈ L) (va_pl L f_61) := by rw [ef_61]; exact hD
        have hG : GI (okc cI cL cZ cR cG cH L kd) kd L f_61 := by rw [ef_61]; exact hG.set a_6 (mk_530 ka_6 ⟨_, rfl, okI_up hbg_59 (by constructor <;> omega) _⟩)
        have hfo_62 : f_61 o0 = .inr (6, [.int x_2, .int v_5, .ref a_6, .ref a_7, .ref a_8, .int v_9, .ref a_10, .ref a_11, .ref a_12]) := by rw [ef_61, up_ne (kd_ne ka_6 ko0 (by decide))]; exact hfo_35
        have hfr0 : ∀ b, kd b ≠ 6 → kd b ≠ 9 → kd b ≠ 530 → f_61 b = f b := fun b q6 q9 q530 => (congrFun ef_61 b).trans ((up_ne (fun e9 => q530 (by rw [e9]; exact ka_6))).trans (hfr0 b q6 q9 q530))
        have hfo_63 : f_61 a_6 = .inl (cI, 8, .inl (upd g_59 (Int32.toNatClampNeg y_32) y_32)) := by rw [ef_61]; exact up_self
        obtain ⟨x_64, ex_64⟩ : ∃ y : Int32, y_32 + 1 = y := ⟨_, rfl⟩
        have hx_64 : x_64.toInt = y_32.toInt + 1 := by rw [← ex_64, ad_I (by rw [ti_1]; omega) (by rw [ti_1]; omega), ti_1]
        have bx_64 : (1 ≤ x_64.toInt ∧ x_64.toInt ≤ 8) := by constructor <;> omega
        refine lv_iinc (v := x_64) (lv' := [(2, .int x_64), (0, .ref o0), (1, .int p1)]) hx hb dX6_restart_24 hl (k := 0) rfl ex_64 (by decide) rfl (fun ls hl => ?_)
        refine lv_goto (tgt := 11) hx hb dX6_restart_27 (by decide) ?_
        exact ih_hloop_31 x_64 (by constructor <;> omega) f_61 hG _ _ hP hS hD hfr0 hfo_62 (by omega) ls (lv_sub hl [0, 1, 2] rfl)
  exact hloop_31 9 0 (by decide) f_14 hG _ _ hP hS hD hfr0 hfo_15 (by (try rw [ti_0]) <;> omega) ls hl
set_option maxHeartbeats 8000000 in
set_option maxRecDepth 100000 in
theorem s_X6_copyFrom_k6_k106 (l : Launch) (D : va_G) (cI cL cZ cR cG cH : ClassId) (Z : zT) (kd : Nat → Nat) (L : List Nat) (f : Nat → va_E) (hG : GI (okc cI cL cZ cR cG cH L kd) kd L f) (o0 : Nat) (mo0 : o0 ∈ L) (ko0 : kd o0 = 6) (o1 : Nat) (mo1 : o1 ∈ L) (ko1 : kd o1 = 106) : mPV l D cI cL cZ cR cG cH Z yX6_copyFrom cX6_copyFrom 2 none 2 61 [.ref o0, .ref o1] L f (fun (f9 : Nat → va_E) => GI (okc cI cL cZ cR cG cH L kd) kd L f9 ∧ (∀ b, kd b ≠ 6 → kd b ≠ 9 → kd b ≠ 504 → kd b ≠ 505 → kd b ≠ 530 → f9 b = f b) ∧ (∀ w9, fldI (f9 o1) 0 = some w9 → fldI (f9 o0) 0 = some w9)) := by
  obtain ⟨dC, dI⟩ := D
  refine Met.ofW (cc := cX6_copyFrom) (maxL := 2) (ret := none) (by decide) rfl ?_
  intro p e s m args below meth c s₁ B hml hv
  obtain ⟨rfl, hP, hK, hD0, hN, hZ⟩ := hv
  have hx := B.exec
  have hb := B.bytes
  have hr := B.returns
  have hU : ∀ w ∈ wsU, w.before _ s = true := fun w h => atoms_spec (ws := wU yX6_copyFrom cX6_copyFrom 2 none) B.pre w (List.mem_cons_of_mem _ h)
  have hown : s.vm.findClass RX6 = some m.cls := findClass_of_methodNamed B.named
  have hlocks := B.notSynchronized
  have hD := pl_in hD0
  have hS : va_S (fun q => q ∈ L) s.heap s.heap [] := va_S.rf
  have hl := lv_entry ([.ref o0, .ref o1]) (n := 2) (Nat.le_of_ble_eq_true rfl)
  rw [lg_entry_eq]
  generalize (lg_sl ([.ref o0, .ref o1]) ++ List.replicate (2 - (lg_sl ([.ref o0, .ref o1])).length) Slot.unset).toArray = ls at hl ⊢
  have hl : lv_has ls 2 [(0, .ref o0), (1, .ref o1)] := hl
  have hfr0 : ∀ b, kd b ≠ 6 → kd b ≠ 9 → kd b ≠ 504 → kd b ≠ 505 → kd b ≠ 530 → f b = f b := fun _ _ _ _ _ _ => rfl
  refine lv_aload_n hx hb dX6_copyFrom_0 rfl (lv_at hl 0 rfl) ?_
  refine lv_aload_n hx hb dX6_copyFrom_1 rfl (lv_at hl 1 rfl) ?_
  obtain ⟨v_2, v_3, a_4, a_5, a_6, v_7, a_8, a_9, a_10, hfo_1, bv_3, ⟨ma_4, ka_4⟩, ⟨ma_5, ka_5⟩, ⟨ma_6, ka_6⟩, ⟨ma_8, ka_8⟩, ⟨ma_9, ka_9⟩, ⟨ma_10, ka_10⟩⟩ := un_106 (hG _ mo1) ko1
  have bv_2 : ((-2147483648) ≤ v_2.toInt ∧ v_2.toInt ≤ 2147483647) := ⟨i32_lo _, i32_hi _⟩
  have bv_7 : ((-2147483648) ≤ v_7.toInt ∧ v_7.toInt ≤ 2147483647) := ⟨i32_lo _, i32_hi _⟩
  refine tk_getP (D := (dC, dI)) (ci := 6) (v := .int v_2) (C := RX6) (T := TX6) (N := 9) hx hb hU inlX6 hown hK hP mo1 hfo_1 rfl 0 (by decide) (hU _ wd_553) (fun _ h9 => h9) rfl dX6_copyFrom_2 ?_
  obtain ⟨v_12, v_13, a_14, a_15, a_16, v_17, a_18, a_19, a_20, hfo_11, bv_13, ⟨ma_14, ka_14⟩, ⟨ma_15, ka_15⟩, ⟨ma_16, ka_16⟩, ⟨ma_18, ka_18⟩, ⟨ma_19, ka_19⟩, ⟨ma_20, ka_20⟩⟩ := un_6 (hG _ mo0) ko0
  have bv_12 : ((-2147483648) ≤ v_12.toInt ∧ v_12.toInt ≤ 2147483647) := ⟨i32_lo _, i32_hi _⟩
  have bv_17 : ((-2147483648) ≤ v_17.toInt ∧ v_17.toInt ≤ 2147483647) := ⟨i32_lo _, i32_hi _⟩
  refine tk_putP (D := (dC, dI)) (ci := 6) (v := .int v_2) (ty := .int) (C := RX6) (T := TX6) (N := 9) hx hb hU inlX6 tyX6 tyX6_ok nmX6 hown hK hP hD hS mo0 hfo_11 rfl 0 (by decide) (hU _ wd_553) (fun _ h9 => h9) rfl (by decide +kernel) rfl rfl (Nat.le_of_ble_eq_true rfl) dX6_copyFrom_5 (fun H locs hP hD hS => ?_)
  obtain ⟨f_22, ef_22⟩ : ∃ y : Nat → va_E, y = va_up f o0 (.inr (6, [.int v_2, .int v_13, .ref a_14, .ref a_15, .ref a_16, .int v_17, .ref a_18, .ref a_19, .ref a_20])) := ⟨_, rfl⟩
  have hP : va_P (dC, dI) vwCl (va_pl L f_22) H := by rw [ef_22]; exact hP
  have hD : va_D (fun q => q ∈ L) (va_pl L f_22) := by rw [ef_22]; exact hD
  have hG : GI (okc cI cL cZ cR cG cH L kd) kd L f_22 := by rw [ef_22]; exact hG.set o0 (mk_6 ko0 ⟨v_2, v_13, a_14, a_15, a_16, v_17, a_18, a_19, a_20, rfl, (by constructor <;> omega), ⟨ma_14, ka_14⟩, ⟨ma_15, ka_15⟩, ⟨ma_16, ka_16⟩, ⟨ma_18, ka_18⟩, ⟨ma_19, ka_19⟩, ⟨ma_20, ka_20⟩⟩)
  have hfo_23 : f_22 o1 = .inr (6, [.int v_2, .int v_3, .ref a_4, .ref a_5, .ref a_6, .int v_7, .ref a_8, .ref a_9, .ref a_10]) := by rw [ef_22, up_ne (kd_ne ko0 ko1 (by decide))]; exact hfo_1
  have hfr0 : ∀ b, kd b ≠ 6 → kd b ≠ 9 → kd b ≠ 504 → kd b ≠ 505 → kd b ≠ 530 → f_22 b = f b := fun b q6 q9 q504 q505 q530 => (congrFun ef_22 b).trans ((up_ne (fun e9 => q6 (by rw [e9]; exact ko0))).trans (hfr0 b q6 q9 q504 q505 q530))
  have hfo_24 : f_22 o0 = .inr (6, [.int v_2, .int v_13, .ref a_14, .ref a_15, .ref a_16, .int v_17, .ref a_18, .ref a_19, .ref a_20]) := by rw [ef_22]; exact up_self
  refine lv_aload_n hx hb dX6_copyFrom_8 rfl (lv_at hl 0 rfl) ?_
  refine lv_aload_n hx hb dX6_copyFrom_9 rfl (lv_at hl 1 rfl) ?_
  refine tk_getP (D := (dC, dI)) (ci := 6) (v := .int v_3) (C := RX6) (T := TX6) (N := 9) hx hb hU inlX6 hown hK hP mo1 hfo_23 rfl 1 (by decide) (hU _ wd_136) (fun _ h9 => h9) rfl dX6_copyFrom_10 ?_
  refine tk_putP (D := (dC, dI)) (ci := 6) (v := .int v_3) (ty := .int) (C := RX6) (T := TX6) (N := 9) hx hb hU inlX6 tyX6 tyX6_ok nmX6 hown hK hP hD hS mo0 hfo_24 rfl 1 (by decide) (hU _ wd_136) (fun _ h9 => h9) rfl (by decide +kernel) rfl rfl (Nat.le_of_ble_eq_true rfl) dX6_copyFrom_13 (fun H locs hP hD hS => ?_)
  obtain ⟨f_26, ef_26⟩ : ∃ y : Nat → va_E, y = va_up f_22 o0 (.inr (6, [.int v_2, .int v_3, .ref a_14, .ref a_15, .ref a_16, .int v_17, .ref a_18, .ref a_19, .ref a_20])) := ⟨_, rfl⟩
  have hP : va_P (dC, dI) vwCl (va_pl L f_26) H := by rw [ef_26]; exact hP
  have hD : va_D (fun q => q ∈ L) (va_pl L f_26) := by rw [ef_26]; exact hD
  have hG : GI (okc cI cL cZ cR cG cH L kd) kd L f_26 := by rw [ef_26]; exact hG.set o0 (mk_6 ko0 ⟨v_2, v_3, a_14, a_15, a_16, v_17, a_18, a_19, a_20, rfl, (by constructor <;> omega), ⟨ma_14, ka_14⟩, ⟨ma_15, ka_15⟩, ⟨ma_16, ka_16⟩, ⟨ma_18, ka_18⟩, ⟨ma_19, ka_19⟩, ⟨ma_20, ka_20⟩⟩)
  have hfo_27 : f_26 o1 = .inr (6, [.int v_2, .int v_3, .ref a_4, .ref a_5, .ref a_6, .int v_7, .ref a_8, .ref a_9, .ref a_10]) := by rw [ef_26, up_ne (kd_ne ko0 ko1 (by decide))]; exact hfo_23
  have hfr0 : ∀ b, kd b ≠ 6 → kd b ≠ 9 → kd b ≠ 504 → kd b ≠ 505 → kd b ≠ 530 → f_26 b = f b := fun b q6 q9 q504 q505 q530 => (congrFun ef_26 b).trans ((up_ne (fun e9 => q6 (by rw [e9]; exact ko0))).trans (hfr0 b q6 q9 q504 q505 q530))
  have hfo_28 : f_26 o0 = .inr (6, [.int v_2, .int v_3, .ref a_14, .ref a_15, .ref a_16, .int v_17, .ref a_18, .ref a_19, .ref a_20]) := by rw [ef_26]; exact up_self
  refine lv_aload_n hx hb dX6_copyFrom_16 rfl (lv_at hl 1 rfl) ?_
  refine tk_getP (D := (dC, dI)) (ci := 6) (v := .ref a_4) (C := RX6) (T := TX6) (N := 9) hx hb hU inlX6 hown hK hP mo1 hfo_27 rfl 2 (by decide) (hU _ wd_137) (fun _ h9 => h9) rfl dX6_copyFrom_17 ?_
  refine lv_iconst (v := 0) hx hb dX6_copyFrom_20 (by decide) ?_
  refine lv_aload_n hx hb dX6_copyFrom_21 rfl (lv_at hl 0 rfl) ?_
  refine tk_getP (D := (dC, dI)) (ci := 6) (v := .ref a_14) (C := RX6) (T := TX6) (N := 9) hx hb hU inlX6 hown hK hP mo0 hfo_28 rfl 2 (by decide) (hU _ wd_137) (fun _ h9 => h9) rfl dX6_copyFrom_22 ?_
  refine lv_iconst (v := 0) hx hb dX6_copyFrom_25 (by decide) ?_
  refine lv_aload_n hx hb dX6_copyFrom_26 rfl (lv_at hl 0 rfl) ?_
  refine tk_getP (D := (dC, dI)) (ci := 6) (v := .ref a_14) (C := RX6) (T := TX6) (N := 9) hx hb hU inlX6 hown hK hP mo0 hfo_28 rfl 2 (by decide) (hU _ wd_137) (fun _ h9 => h9) rfl dX6_copyFrom_27 ?_
  obtain ⟨g_30, hfo_29, hbg_30⟩ := un_530 (hG _ ma_14) ka_14
  refine tk_alenP (v := 8) hx hb hK hP 0 ma_14 hfo_29 rfl rfl dX6_copyFrom_30 ?_
  obtain ⟨g_32, hfo_31, hbg_32⟩ := un_530 (hG _ ma_4) ka_4
  refine tk_copyP hx hb (by rw [hml]; exact hl.1.symm) hown (hU _ wd_1477) (hU _ wd_253) (hU _ wd_254) (hU _ wd_255) hK hP hD hS 0 ma_4 ma_14 hfo_31 hfo_29 rfl (by decide) (by decide) (by decide) (by decide) (by decide) (Nat.le_of_ble_eq_true rfl) (Nat.le_of_ble_eq_true rfl) dX6_copyFrom_31 (fun H locs hP hD hS => ?_)
  obtain ⟨f_34, ef_34⟩ : ∃ y : Nat → va_E, y = va_up f_26 a_14 (.inl (cI, 8, .inl (va_cpy g_32 g_30 (Int32.toNatClampNeg 0) (Int32.toNatClampNeg 0) (Int32.toNatClampNeg 8)))) := ⟨_, rfl⟩
  have hP : va_P (dC, dI) vwCl (va_pl L f_34) H := by rw [ef_34]; exact hP
  have hD : va_D (fun q => q ∈ L) (va_pl L f_34) := by rw [ef_34]; exact hD
  have hG : GI (okc cI cL cZ cR cG cH L kd) kd L f_34 := by rw [ef_34]; exact hG.set a_14 (mk_530 ka_14 ⟨_, rfl, okI_cpy (fun j => by have := hbg_32 j; constructor <;> omega) hbg_30 _ _ _⟩)
  have hfo_35 : f_34 o1 = .inr (6, [.int v_2, .int v_3, .ref a_4, .ref a_5, .ref a_6, .int v_7, .ref a_8, .ref a_9, .ref a_10]) := by rw [ef_34, up_ne (kd_ne ka_14 ko1 (by decide))]; exact hfo_27
  have hfo_36 : f_34 o0 = .inr (6, [.int v_2, .int v_3, .ref a_14, .ref a_15, .ref a_16, .int v_17, .ref a_18, .ref a_19, .ref a_20]) := by rw [ef_34, up_ne (kd_ne ka_14 ko0 (by decide))]; exact hfo_28
  have hfr0 : ∀ b, kd b ≠ 6 → kd b ≠ 9 → kd b ≠ 504 → kd b ≠ 505 → kd b ≠ 530 → f_34 b = f b := fun b q6 q9 q504 q505 q530 => (congrFun ef_34 b).trans ((up_ne (fun e9 => q530 (by rw [e9]; exact ka_14))).trans (hfr0 b q6 q9 q504 q505 q530))
  have hfo_37 : f_34 a_14 = .inl (cI, 8, .inl (va_cpy g_32 g_30 (Int32.toNatClampNeg 0) (Int32.toNatClampNeg 0) (Int32.toNatClampNeg 8))) := by rw [ef_34]; exact up_self
  refine lv_aload_n hx hb dX6_copyFrom_34 rfl (lv_at hl 0 rfl) ?_
  refine tk_getP (D := (dC, dI)) (ci := 6) (v := .ref a_15) (C := RX6) (T := TX6) (N := 9) hx hb hU inlX6 hown hK hP mo0 hfo_36 rfl 3 (by decide) (hU _ wd_139) (fun _ h9 => h9) rfl dX6_copyFrom_35 ?_
  refine lv_aload_n hx hb dX6_copyFrom_38 rfl (lv_at hl 1 rfl) ?_
  refine tk_getP (D := (dC, dI)) (ci := 6) (v := .ref a_5) (C := RX6) (T := TX6) (N := 9) hx hb hU inlX6 hown hK hP mo1 hfo_35 rfl 3 (by decide) (hU _ wd_139) (fun _ h9 => h9) rfl dX6_copyFrom_39 ?_
  obtain ⟨a_39, a_40, v_41, hfo_38, ⟨ma_39, ka_39⟩, ⟨ma_40, ka_40⟩, bv_41⟩ := un_9 (hG _ ma_15) ka_15
  refine tk_VvP (As := [.ref a_5]) (rest := []) (n := 1) hx hb hml hown hU hN hZ (s_X9_copyFrom_k9_k9 l (dC, dI) cI cL cZ cR cG cH Z kd L f_34 hG a_15 ma_15 ka_15 a_5 ma_5 ka_5) wd_1478 wd_545 wd_546 wd_85 wd_547 (by decide +kernel) ⟨Nat.le_of_ble_eq_true rfl, Nat.le_of_ble_eq_true rfl⟩ hK hP hD hS ma_15 hfo_38 9 rfl rfl rfl hl.1 rfl (Nat.le_of_ble_eq_true rfl) dX6_copyFrom_42 ⟨Nat.le_of_ble_eq_true rfl, Nat.le_of_ble_eq_true rfl⟩ (fun f_43 H locs hw hP hD hS => ?_)
  obtain ⟨hG, hkc_44⟩ := hw
  have hfo_46 : f_43 o1 = .inr (6, [.int v_2, .int v_3, .ref a_4, .ref a_5, .ref a_6, .int v_7, .ref a_8, .ref a_9, .ref a_10]) := by rw [hkc_44 o1 (by rw [ko1]; decide) (by rw [ko1]; decide) (by rw [ko1]; decide)]; exact hfo_35
  have hfo_47 : f_43 o0 = .inr (6, [.int v_2, .int v_3, .ref a_14, .ref a_15, .ref a_16, .int v_17, .ref a_18, .ref a_19, .ref a_20]) := by rw [hkc_44 o0 (by rw [ko0]; decide) (by rw [ko0]; decide) (by rw [ko0]; decide)]; exact hfo_36
  have hfr0 : ∀ b, kd b ≠ 6 → kd b ≠ 9 → kd b ≠ 504 → kd b ≠ 505 → kd b ≠ 530 → f_43 b = f b := fun b q6 q9 q504 q505 q530 => (hkc_44 b q9 q504 q505).trans (hfr0 b q6 q9 q504 q505 q530)
  refine lv_aload_n hx hb dX6_copyFrom_45 rfl (lv_at hl 0 rfl) ?_
  refine tk_getP (D := (dC, dI)) (ci := 6) (v := .ref a_16) (C := RX6) (T := TX6) (N := 9) hx hb hU inlX6 hown hK hP mo0 hfo_47 rfl 4 (by decide) (hU _ wd_140) (fun _ h9 => h9) rfl dX6_copyFrom_46 ?_
  refine lv_aload_n hx hb dX6_copyFrom_49 rfl (lv_at hl 1 rfl) ?_
  refine tk_getP (D := (dC, dI)) (ci := 6) (v := .ref a_6) (C := RX6) (T := TX6) (N := 9) hx hb hU inlX6 hown hK hP mo1 hfo_46 rfl 4 (by decide) (hU _ wd_140) (fun _ h9 => h9) rfl dX6_copyFrom_50 ?_
  obtain ⟨a_49, a_50, v_51, hfo_48, ⟨ma_49, ka_49⟩, ⟨ma_50, ka_50⟩, bv_51⟩ := un_9 (hG _ ma_16) ka_16
  refine tk_VvP (As := [.ref a_6]) (rest := []) (n := 1) hx hb hml hown hU hN hZ (s_X9_copyFrom_k9_k9 l (dC, dI) cI cL cZ cR cG cH Z kd L f_43 hG a_16 ma_16 ka_16 a_6 ma_6 ka_6) wd_1478 wd_545 wd_546 wd_85 wd_547 (by decide +kernel) ⟨Nat.le_of_ble_eq_true rfl, Nat.le_of_ble_eq_true rfl⟩ hK hP hD hS ma_16 hfo_48 9 rfl rfl rfl hl.1 rfl (Nat.le_of_ble_eq_true rfl) dX6_copyFrom_53 ⟨Nat.le_of_ble_eq_true rfl, Nat.le_of_ble_eq_true rfl⟩ (fun f_53 H locs hw hP hD hS => ?_)
  obtain ⟨hG, hkc_54⟩ := hw
  have hfo_56 : f_53 o1 = .inr (6, [.int v_2, .int v_3, .ref a_4, .ref a_5, .ref a_6, .int v_7, .ref a_8, .ref a_9, .ref a_10]) := by rw [hkc_54 o1 (by rw [ko1]; decide) (by rw [ko1]; decide) (by rw [ko1]; decide)]; exact hfo_46
  have hfo_57 : f_53 o0 = .inr (6, [.int v_2, .int v_3, .ref a_14, .ref a_15, .ref a_16, .int v_17, .ref a_18, .ref a_19, .ref a_20]) := by rw [hkc_54 o0 (by rw [ko0]; decide) (by rw [ko0]; decide) (by rw [ko0]; decide)]; exact hfo_47
  have hfr0 : ∀ b, kd b ≠ 6 → kd b ≠ 9 → kd b ≠ 504 → kd b ≠ 505 → kd b ≠ 530 → f_53 b = f b := fun b q6 q9 q504 q505 q530 => (hkc_54 b q9 q504 q505).trans (hfr0 b q6 q9 q504 q505 q530)
  refine lv_aload_n hx hb dX6_copyFrom_56 rfl (lv_at hl 0 rfl) ?_
  refine lv_aload_n hx hb dX6_copyFrom_57 rfl (lv_at hl 1 rfl) ?_
  refine tk_getP (D := (dC, dI)) (ci := 6) (v := .int v_7) (C := RX6) (T := TX6) (N := 9) hx hb hU inlX6 hown hK hP mo1 hfo_56 rfl 5 (by decide) (hU _ wd_554) (fun _ h9 => h9) rfl dX6_copyFrom_58 ?_
  refine tk_putP (D := (dC, dI)) (ci := 6) (v := .int v_7) (ty := .int) (C := RX6) (T := TX6) (N := 9) hx hb hU inlX6 tyX6 tyX6_ok nmX6 hown hK hP hD hS mo0 hfo_57 rfl 5 (by decide) (hU _ wd_554) (fun _ h9 => h9) rfl (by decide +kernel) rfl rfl (Nat.le_of_ble_eq_true rfl) dX6_copyFrom_61 (fun H locs hP hD hS => ?_)
  obtain ⟨f_59, ef_59⟩ : ∃ y : Nat → va_E, y = va_up f_53 o0 (.inr (6, [.int v_2, .int v_3, .ref a_14, .ref a_15, .ref a_16, .int v_7, .ref a_18, .ref a_19, .ref a_20])) := ⟨_, rfl⟩
  have hP : va_P (dC, dI) vwCl (va_pl L f_59) H := by rw [ef_59]; exact hP
  have hD : va_D (fun q => q ∈ L) (va_pl L f_59) := by rw [ef_59]; exact hD
  have hG : GI (okc cI cL cZ cR cG cH L kd) kd L f_59 := by rw [ef_59]; exact hG.set o0 (mk_6 ko0 ⟨v_2, v_3, a_14, a_15, a_16, v_7, a_18, a_19, a_20, rfl, (by constructor <;> omega), ⟨ma_14, ka_14⟩, ⟨ma_15, ka_15⟩, ⟨ma_16, ka_16⟩, ⟨ma_18, ka_18⟩, ⟨ma_19, ka_19⟩, ⟨ma_20, ka_20⟩⟩)
  have hfo_60 : f_59 o1 = .inr (6, [.int v_2, .int v_3, .ref a_4, .ref a_5, .ref a_6, .int v_7, .ref a_8, .ref a_9, .ref a_10]) := by rw [ef_59, up_ne (kd_ne ko0 ko1 (by decide))]; exact hfo_56
  have hfr0 : ∀ b, kd b ≠ 6 → kd b ≠ 9 → kd b ≠ 504 → kd b ≠ 505 → kd b ≠ 530 → f_59 b = f b := fun b q6 q9 q504 q505 q530 => (congrFun ef_59 b).trans ((up_ne (fun e9 => q6 (by rw [e9]; exact ko0))).trans (hfr0 b q6 q9 q504 q505 q530))
  have hfo_61 : f_59 o0 = .inr (6, [.int v_2, .int v_3, .ref a_14, .ref a_15, .ref a_16, .int v_7, .ref a_18, .ref a_19, .ref a_20]) := by rw [ef_59]; exact up_self
  exact W.vret hx hb hr (fun t ht hW => ⟨⟨f_59, rfl, ⟨hG, hfr0, (fun w9 h9 => by rw [hfo_60] at h9; rw [hfo_61]; exact h9)⟩, by rw [ht]; exact hP, va_K.moved hW.alike hK, pl_in hD⟩, hS.F ht⟩) hS.2.2 dX6_copyFrom_64
set_option maxHeartbeats 8000000 in
set_option maxRecDepth 100000 in
theorem s_X6_copyFrom_k106_k6 (l : Launch) (D : va_G) (cI cL cZ cR cG cH : ClassId) (Z : zT) (kd : Nat → Nat) (L : List Nat) (f : Nat → va_E) (hG : GI (okc cI cL cZ cR cG cH L kd) kd L f) (o0 : Nat) (mo0 : o0 ∈ L) (ko0 : kd o0 = 106) (o1 : Nat) (mo1 : o1 ∈ L) (ko1 : kd o1 = 6) : mPV l D cI cL cZ cR cG cH Z yX6_copyFrom cX6_copyFrom 2 none 2 61 [.ref o0, .ref o1] L f (fun (f9 : Nat → va_E) => GI (okc cI cL cZ cR cG cH L kd) kd L f9 ∧ (∀ b, kd b ≠ 9 → kd b ≠ 106 → kd b ≠ 504 → kd b ≠ 505 → kd b ≠ 530 → f9 b = f b) ∧ (∀ w9, fldI (f9 o1) 0 = some w9 → fldI (f9 o0) 0 = some w9)) := by
  obtain ⟨dC, dI⟩ := D
  refine Met.ofW (cc := cX6_copyFrom) (maxL := 2) (ret := none) (by decide) rfl ?_
  intro p e s m args below meth c s₁ B hml hv
  obtain ⟨rfl, hP, hK, hD0, hN, hZ⟩ := hv
  have hx := B.exec
  have hb := B.bytes
  have hr := B.returns
  have hU : ∀ w ∈ wsU, w.before _ s = true := fun w h => atoms_spec (ws := wU yX6_copyFrom cX6_copyFrom 2 none) B.pre w (List.mem_cons_of_mem _ h)
  have hown : s.vm.findClass RX6 = some m.cls := findClass_of_methodNamed B.named
  have hlocks := B.notSynchronized
  have hD := pl_in hD0
  have hS : va_S (fun q => q ∈ L) s.heap s.heap [] := va_S.rf
  have hl := lv_entry ([.ref o0, .ref o1]) (n := 2) (Nat.le_of_ble_eq_true rfl)
  rw [lg_entry_eq]
  generalize (lg_sl ([.ref o0, .ref o1]) ++ List.replicate (2 - (lg_sl ([.ref o0, .ref o1])).length) Slot.unset).toArray = ls at hl ⊢
  have hl : lv_has ls 2 [(0, .ref o0), (1, .ref o1)] := hl
  have hfr0 : ∀ b, kd b ≠ 9 → kd b ≠ 106 → kd b ≠ 504 → kd b ≠ 505 → kd b ≠ 530 → f b = f b := fun _ _ _ _ _ _ => rfl
  refine lv_aload_n hx hb dX6_copyFrom_0 rfl (lv_at hl 0 rfl) ?_
  refine lv_aload_n hx hb dX6_copyFrom_1 rfl (lv_at hl 1 rfl) ?_
  obtain ⟨v_2, v_3, a_4, a_5, a_6, v_7, a_8, a_9, a_10, hfo_1, bv_3, ⟨ma_4, ka_4⟩, ⟨ma_5, ka_5⟩, ⟨ma_6, ka_6⟩, ⟨ma_8, ka_8⟩, ⟨ma_9, ka_9⟩, ⟨ma_10, ka_10⟩⟩ := un_6 (hG _ mo1) ko1
  have bv_2 : ((-2147483648) ≤ v_2.toInt ∧ v_2.toInt ≤ 2147483647) := ⟨i32_lo _, i32_hi _⟩
  have bv_7 : ((-2147483648) ≤ v_7.toInt ∧ v_7.toInt ≤ 2147483647) := ⟨i32_lo _, i32_hi _⟩
  refine tk_getP (D := (dC, dI)) (ci := 6) (v := .int v_2) (C := RX6) (T := TX6) (N := 9) hx hb hU inlX6 hown hK hP mo1 hfo_1 rfl 0 (by decide) (hU _ wd_553) (fun _ h9 => h9) rfl dX6_copyFrom_2 ?_
  obtain ⟨v_12, v_13, a_14, a_15, a_16, v_17, a_18, a_19, a_20, hfo_11, bv_13, ⟨ma_14, ka_14⟩, ⟨ma_15, ka_15⟩, ⟨ma_16, ka_16⟩, ⟨ma_18, ka_18⟩, ⟨ma_19, ka_19⟩, ⟨ma_20, ka_20⟩⟩ := un_106 (hG _ mo0) ko0
  have bv_12 : ((-2147483648) ≤ v_12.toInt ∧ v_12.toInt ≤ 2147483647) := ⟨i32_lo _, i32_hi _⟩
  have bv_17 : ((-2147483648) ≤ v_17.toInt ∧ v_17.toInt ≤ 2147483647) := ⟨i32_lo _, i32_hi _⟩
  refine tk_putP (D := (dC, dI)) (ci := 6) (v := .int v_2) (ty := .int) (C := RX6) (T := TX6) (N := 9) hx hb hU inlX6 tyX6 tyX6_ok nmX6 hown hK hP hD hS mo0 hfo_11 rfl 0 (by decide) (hU _ wd_553) (fun _ h9 => h9) rfl (by decide +kernel) rfl rfl (Nat.le_of_ble_eq_true rfl) dX6_copyFrom_5 (fun H locs hP hD hS => ?_)
  obtain ⟨f_22, ef_22⟩ : ∃ y : Nat → va_E, y = va_up f o0 (.inr (6, [.int v_2, .int v_13, .ref a_14, .ref a_15, .ref a_16, .int v_17, .ref a_18, .ref a_19, .ref a_20])) := ⟨_, rfl⟩
  have hP : va_P (dC, dI) vwCl (va_pl L f_22) H := by rw [ef_22]; exact hP
  have hD : va_D (fun q => q ∈ L) (va_pl L f_22) := by rw [ef_22]; exact hD
  have hG : GI (okc cI cL cZ cR cG cH L kd) kd L f_22 := by rw [ef_22]; exact hG.set o0 (mk_106 ko0 ⟨v_2, v_13, a_14, a_15, a_16, v_17, a_18, a_19, a_20, rfl, (by constructor <;> omega), ⟨ma_14, ka_14⟩, ⟨ma_15, ka_15⟩, ⟨ma_16, ka_16⟩, ⟨ma_18, ka_18⟩, ⟨ma_19, ka_19⟩, ⟨ma_20, ka_20⟩⟩)
  have hfo_23 : f_22 o1 = .inr (6, [.int v_2, .int v_3, .ref a_4, .ref a_5, .ref a_6, .int v_7, .ref a_8, .ref a_9, .ref a_10]) := by rw [ef_22, up_ne (kd_ne ko0 ko1 (by decide))]; exact hfo_1
  have hfr0 : ∀ b, kd b ≠ 9 → kd b ≠ 106 → kd b ≠ 504 → kd b ≠ 505 → kd b ≠ 530 → f_22 b = f b := fun b q9 q106 q504 q505 q530 => (congrFun ef_22 b).trans ((up_ne (fun e9 => q106 (by rw [e9]; exact ko0))).trans (hfr0 b q9 q106 q504 q505 q530))
  have hfo_24 : f_22 o0 = .inr (6, [.int v_2, .int v_13, .ref a_14, .ref a_15, .ref a_16, .int v_17, .ref a_18, .ref a_19, .ref a_20]) := by rw [ef_22]; exact up_self
  refine lv_aload_n hx hb dX6_copyFrom_8 rfl (lv_at hl 0 rfl) ?_
  refine lv_aload_n hx hb dX6_copyFrom_9 rfl (lv_at hl 1 rfl) ?_
  refine tk_getP (D := (dC, dI)) (ci := 6) (v := .int v_3) (C := RX6) (T := TX6) (N := 9) hx hb hU inlX6 hown hK hP mo1 hfo_23 rfl 1 (by decide) (hU _ wd_136) (fun _ h9 => h9) rfl dX6_copyFrom_10 ?_
  refine tk_putP (D := (dC, dI)) (ci := 6) (v := .int v_3) (ty := .int) (C := RX6) (T := TX6) (N := 9) hx hb hU inlX6 tyX6 tyX6_ok nmX6 hown hK hP hD hS mo0 hfo_24 rfl 1 (by decide) (hU _ wd_136) (fun _ h9 => h9) rfl (by decide +kernel) rfl rfl (Nat.le_of_ble_eq_true rfl) dX6_copyFrom_13 (fun H locs hP hD hS => ?_)
  obtain ⟨f_26, ef_26⟩ : ∃ y : Nat → va_E, y = va_up f_22 o0 (.inr (6, [.int v_2, .int v_3, .ref a_14, .ref a_15, .ref a_16, .int v_17, .ref a_18, .ref a_19, .ref a_20])) := ⟨_, rfl⟩
  have hP : va_P (dC, dI) vwCl (va_pl L f_26) H := by rw [ef_26]; exact hP
  have hD : va_D (fun q => q ∈ L) (va_pl L f_26) := by rw [ef_26]; exact hD
  have hG : GI (okc cI cL cZ cR cG cH L kd) kd L f_26 := by rw [ef_26]; exact hG.set o0 (mk_106 ko0 ⟨v_2, v_3, a_14, a_15, a_16, v_17, a_18, a_19, a_20, rfl, (by constructor <;> omega), ⟨ma_14, ka_14⟩, ⟨ma_15, ka_15⟩, ⟨ma_16, ka_16⟩, ⟨ma_18, ka_18⟩, ⟨ma_19, ka_19⟩, ⟨ma_20, ka_20⟩⟩)
  have hfo_27 : f_26 o1 = .inr (6, [.int v_2, .int v_3, .ref a_4, .ref a_5, .ref a_6, .int v_7, .ref a_8, .ref a_9, .ref a_10]) := by rw [ef_26, up_ne (kd_ne ko0 ko1 (by decide))]; exact hfo_23
  have hfr0 : ∀ b, kd b ≠ 9 → kd b ≠ 106 → kd b ≠ 504 → kd b ≠ 505 → kd b ≠ 530 → f_26 b = f b := fun b q9 q106 q504 q505 q530 => (congrFun ef_26 b).trans ((up_ne (fun e9 => q106 (by rw [e9]; exact ko0))).trans (hfr0 b q9 q106 q504 q505 q530))
  have hfo_28 : f_26 o0 = .inr (6, [.int v_2, .int v_3, .ref a_14, .ref a_15, .ref a_16, .int v_17, .ref a_18, .ref a_19, .ref a_20]) := by rw [ef_26]; exact up_self
  refine lv_aload_n hx hb dX6_copyFrom_16 rfl (lv_at hl 1 rfl) ?_
  refine tk_getP (D := (dC, dI)) (ci := 6) (v := .ref a_4) (C := RX6) (T := TX6) (N := 9) hx hb hU inlX6 hown hK hP mo1 hfo_27 rfl 2 (by decide) (hU _ wd_137) (fun _ h9 => h9) rfl dX6_copyFrom_17 ?_
  refine lv_iconst (v := 0) hx hb dX6_copyFrom_20 (by decide) ?_
  refine lv_aload_n hx hb dX6_copyFrom_21 rfl (lv_at hl 0 rfl) ?_
  refine tk_getP (D := (dC, dI)) (ci := 6) (v := .ref a_14) (C := RX6) (T := TX6) (N := 9) hx hb hU inlX6 hown hK hP mo0 hfo_28 rfl 2 (by decide) (hU _ wd_137) (fun _ h9 => h9) rfl dX6_copyFrom_22 ?_
  refine lv_iconst (v := 0) hx hb dX6_copyFrom_25 (by decide) ?_
  refine lv_aload_n hx hb dX6_copyFrom_26 rfl (lv_at hl 0 rfl) ?_
  refine tk_getP (D := (dC, dI)) (ci := 6) (v := .ref a_14) (C := RX6) (T := TX6) (N := 9) hx hb hU inlX6 hown hK hP mo0 hfo_28 rfl 2 (by decide) (hU _ wd_137) (fun _ h9 => h9) rfl dX6_copyFrom_27 ?_
  obtain ⟨g_30, hfo_29, hbg_30⟩ := un_530 (hG _ ma_14) ka_14
  refine tk_alenP (v := 8) hx hb hK hP 0 ma_14 hfo_29 rfl rfl dX6_copyFrom_30 ?_
  obtain ⟨g_32, hfo_31, hbg_32⟩ := un_530 (hG _ ma_4) ka_4
  refine tk_copyP hx hb (by rw [hml]; exact hl.1.symm) hown (hU _ wd_1477) (hU _ wd_253) (hU _ wd_254) (hU _ wd_255) hK hP hD hS 0 ma_4 ma_14 hfo_31 hfo_29 rfl (by decide) (by decide) (by decide) (by decide) (by decide) (Nat.le_of_ble_eq_true rfl) (Nat.le_of_ble_eq_true rfl) dX6_copyFrom_31 (fun H locs hP hD hS => ?_)
  obtain ⟨f_34, ef_34⟩ : ∃ y : Nat → va_E, y = va_up f_26 a_14 (.inl (cI, 8, .inl (va_cpy g_32 g_30 (Int32.toNatClampNeg 0) (Int32.toNatClampNeg 0) (Int32.toNatClampNeg 8)))) := ⟨_, rfl⟩
  have hP : va_P (dC, dI) vwCl (va_pl L f_34) H := by rw [ef_34]; exact hP
  have hD : va_D (fun q => q ∈ L) (va_pl L f_34) := by rw [ef_34]; exact hD
  have hG : GI (okc cI cL cZ cR cG cH L kd) kd L f_34 := by rw [ef_34]; exact hG.set a_14 (mk_530 ka_14 ⟨_, rfl, okI_cpy (fun j => by have := hbg_32 j; constructor <;> omega) hbg_30 _ _ _⟩)
  have hfo_35 : f_34 o1 = .inr (6, [.int v_2, .int v_3, .ref a_4, .ref a_5, .ref a_6, .int v_7, .ref a_8, .ref a_9, .ref a_10]) := by rw [ef_34, up_ne (kd_ne ka_14 ko1 (by decide))]; exact hfo_27
  have hfo_36 : f_34 o0 = .inr (6, [.int v_2, .int v_3, .ref a_14, .ref a_15, .ref a_16, .int v_17, .ref a_18, .ref a_19, .ref a_20]) := by rw [ef_34, up_ne (kd_ne ka_14 ko0 (by decide))]; exact hfo_28
  have hfr0 : ∀ b, kd b ≠ 9 → kd b ≠ 106 → kd b ≠ 504 → kd b ≠ 505 → kd b ≠ 530 → f_34 b = f b := fun b q9 q106 q504 q505 q530 => (congrFun ef_34 b).trans ((up_ne (fun e9 => q530 (by rw [e9]; exact ka_14))).trans (hfr0 b q9 q106 q504 q505 q530))
  have hfo_37 : f_34 a_14 = .inl (cI, 8, .inl (va_cpy g_32 g_30 (Int32.toNatClampNeg 0) (Int32.toNatClampNeg 0) (Int32.toNatClampNeg 8))) := by rw [ef_34]; exact up_self
  refine lv_aload_n hx hb dX6_copyFrom_34 rfl (lv_at hl 0 rfl) ?_
  refine tk_getP (D := (dC, dI)) (ci := 6) (v := .ref a_15) (C := RX6) (T := TX6) (N := 9) hx hb hU inlX6 hown hK hP mo0 hfo_36 rfl 3 (by decide) (hU _ wd_139) (fun _ h9 => h9) rfl dX6_copyFrom_35 ?_
  refine lv_aload_n hx hb dX6_copyFrom_38 rfl (lv_at hl 1 rfl) ?_
  refine tk_getP (D := (dC, dI)) (ci := 6) (v := .ref a_5) (C := RX6) (T := TX6) (N := 9) hx hb hU inlX6 hown hK hP mo1 hfo_35 rfl 3 (by decide) (hU _ wd_139) (fun _ h9 => h9) rfl dX6_copyFrom_39 ?_
  obtain ⟨a_39, a_40, v_41, hfo_38, ⟨ma_39, ka_39⟩, ⟨ma_40, ka_40⟩, bv_41⟩ := un_9 (hG _ ma_15) ka_15
  refine tk_VvP (As := [.ref a_5]) (rest := []) (n := 1) hx hb hml hown hU hN hZ (s_X9_copyFrom_k9_k9 l (dC, dI) cI cL cZ cR cG cH Z kd L f_34 hG a_15 ma_15 ka_15 a_5 ma_5 ka_5) wd_1478 wd_545 wd_546 wd_85 wd_547 (by decide +kernel) ⟨Nat.le_of_ble_eq_true rfl, Nat.le_of_ble_eq_true rfl⟩ hK hP hD hS ma_15 hfo_38 9 rfl rfl rfl hl.1 rfl (Nat.le_of_ble_eq_true rfl) dX6_copyFrom_42 ⟨Nat.le_of_ble_eq_true rfl, Nat.le_of_ble_eq_true rfl⟩ (fun f_43 H locs hw hP hD hS => ?_)
  obtain ⟨hG, hkc_44⟩ := hw
  have hfo_46 : f_43 o1 = .inr (6, [.int v_2, .int v_3, .ref a_4, .ref a_5, .ref a_6, .int v_7, .ref a_8, .ref a_9, .ref a_10]) := by rw [hkc_44 o1 (by rw [ko1]; decide) (by rw [ko1]; decide) (by rw [ko1]; decide)]; exact hfo_35
  have hfo_47 : f_43 o0 = .inr (6, [.int v_2, .int v_3, .ref a_14, .ref a_15, .ref a_16, .int v_17, .ref a_18, .ref a_19, .ref a_20]) := by rw [hkc_44 o0 (by rw [ko0]; decide) (by rw [ko0]; decide) (by rw [ko0]; decide)]; exact hfo_36
  have hfr0 : ∀ b, kd b ≠ 9 → kd b ≠ 106 → kd b ≠ 504 → kd b ≠ 505 → kd b ≠ 530 → f_43 b = f b := fun b q9 q106 q504 q505 q530 => (hkc_44 b q9 q504 q505).trans (hfr0 b q9 q106 q504 q505 q530)
  refine lv_aload_n hx hb dX6_copyFrom_45 rfl (lv_at hl 0 rfl) ?_
  refine tk_getP (D := (dC, dI)) (ci := 6) (v := .ref a_16) (C := RX6) (T := TX6) (N := 9) hx hb hU inlX6 hown hK hP mo0 hfo_47 rfl 4 (by decide) (hU _ wd_140) (fun _ h9 => h9) rfl dX6_copyFrom_46 ?_
  refine lv_aload_n hx hb dX6_copyFrom_49 rfl (lv_at hl 1 rfl) ?_
  refine tk_getP (D := (dC, dI)) (ci := 6) (v := .ref a_6) (C := RX6) (T := TX6) (N := 9) hx hb hU inlX6 hown hK hP mo1 hfo_46 rfl 4 (by decide) (hU _ wd_140) (fun _ h9 => h9) rfl dX6_copyFrom_50 ?_
  obtain ⟨a_49, a_50, v_51, hfo_48, ⟨ma_49, ka_49⟩, ⟨ma_50, ka_50⟩, bv_51⟩ := un_9 (hG _ ma_16) ka_16
  refine tk_VvP (As := [.ref a_6]) (rest := []) (n := 1) hx hb hml hown hU hN hZ (s_X9_copyFrom_k9_k9 l (dC, dI) cI cL cZ cR cG cH Z kd L f_43 hG a_16 ma_16 ka_16 a_6 ma_6 ka_6) wd_1478 wd_545 wd_546 wd_85 wd_547 (by decide +kernel) ⟨Nat.le_of_ble_eq_true rfl, Nat.le_of_ble_eq_true rfl⟩ hK hP hD hS ma_16 hfo_48 9 rfl rfl rfl hl.1 rfl (Nat.le_of_ble_eq_true rfl) dX6_copyFrom_53 ⟨Nat.le_of_ble_eq_true rfl, Nat.le_of_ble_eq_true rfl⟩ (fun f_53 H locs hw hP hD hS => ?_)
  obtain ⟨hG, hkc_54⟩ := hw
  have hfo_56 : f_53 o1 = .inr (6, [.int v_2, .int v_3, .ref a_4, .ref a_5, .ref a_6, .int v_7, .ref a_8, .ref a_9, .ref a_10]) := by rw [hkc_54 o1 (by rw [ko1]; decide) (by rw [ko1]; decide) (by rw [ko1]; decide)]; exact hfo_46
  have hfo_57 : f_53 o0 = .inr (6, [.int v_2, .int v_3, .ref a_14, .ref a_15, .ref a_16, .int v_17, .ref a_18, .ref a_19, .ref a_20]) := by rw [hkc_54 o0 (by rw [ko0]; decide) (by rw [ko0]; decide) (by rw [ko0]; decide)]; exact hfo_47
  have hfr0 : ∀ b, kd b ≠ 9 → kd b ≠ 106 → kd b ≠ 504 → kd b ≠ 505 → kd b ≠ 530 → f_53 b = f b := fun b q9 q106 q504 q505 q530 => (hkc_54 b q9 q504 q505).trans (hfr0 b q9 q106 q504 q505 q530)
  refine lv_aload_n hx hb dX6_copyFrom_56 rfl (lv_at hl 0 rfl) ?_
  refine lv_aload_n hx hb dX6_copyFrom_57 rfl (lv_at hl 1 rfl) ?_
  refine tk_getP (D := (dC, dI)) (ci := 6) (v := .int v_7) (C := RX6) (T := TX6) (N := 9) hx hb hU inlX6 hown hK hP mo1 hfo_56 rfl 5 (by decide) (hU _ wd_554) (fun _ h9 => h9) rfl dX6_copyFrom_58 ?_
  refine tk_putP (D := (dC, dI)) (ci := 6) (v := .int v_7) (ty := .int) (C := RX6) (T := TX6) (N := 9) hx hb hU inlX6 tyX6 tyX6_ok nmX6 hown hK hP hD hS mo0 hfo_57 rfl 5 (by decide) (hU _ wd_554) (fun _ h9 => h9) rfl (by decide +kernel) rfl rfl (Nat.le_of_ble_eq_true rfl) dX6_copyFrom_61 (fun H locs hP hD hS => ?_)
  obtain ⟨f_59, ef_59⟩ : ∃ y : Nat → va_E, y = va_up f_53 o0 (.inr (6, [.int v_2, .int v_3, .ref a_14, .ref a_15, .ref a_16, .int v_7, .ref a_18, .ref a_19, .ref a_20])) := ⟨_, rfl⟩
  have hP : va_P (dC, dI) vwCl (va_pl L f_59) H := by rw [ef_59]; exact hP
  have hD : va_D (fun q => q ∈ L) (va_pl L f_59) := by rw [ef_59]; exact hD
  have hG : GI (okc cI cL cZ cR cG cH L kd) kd L f_59 := by rw [ef_59]; exact hG.set o0 (mk_106 ko0 ⟨v_2, v_3, a_14, a_15, a_16, v_7, a_18, a_19, a_20, rfl, (by constructor <;> omega), ⟨ma_14, ka_14⟩, ⟨ma_15, ka_15⟩, ⟨ma_16, ka_16⟩, ⟨ma_18, ka_18⟩, ⟨ma_19, ka_19⟩, ⟨ma_20, ka_20⟩⟩)
  have hfo_60 : f_59 o1 = .inr (6, [.int v_2, .int v_3, .ref a_4, .ref a_5, .ref a_6, .int v_7, .ref a_8, .ref a_9, .ref a_10]) := by rw [ef_59, up_ne (kd_ne ko0 ko1 (by decide))]; exact hfo_56
  have hfr0 : ∀ b, kd b ≠ 9 → kd b ≠ 106 → kd b ≠ 504 → kd b ≠ 505 → kd b ≠ 530 → f_59 b = f b := fun b q9 q106 q504 q505 q530 => (congrFun ef_59 b).trans ((up_ne (fun e9 => q106 (by rw [e9]; exact ko0))).trans (hfr0 b q9 q106 q504 q505 q530))
  have hfo_61 : f_59 o0 = .inr (6, [.int v_2, .int v_3, .ref a_14, .ref a_15, .ref a_16, .int v_7, .ref a_18, .ref a_19, .ref a_20]) := by rw [ef_59]; exact up_self
  exact W.vret hx hb hr (fun t ht hW => ⟨⟨f_59, rfl, ⟨hG, hfr0, (fun w9 h9 => by rw [hfo_60] at h9; rw [hfo_61]; exact h9)⟩, by rw [ht]; exact hP, va_K.moved hW.alike hK, pl_in hD⟩, hS.F ht⟩) hS.2.2 dX6_copyFrom_64
