set_option maxHeartbeats 8000000 in
set_option maxRecDepth 100000 in
theorem s_X10_clear_k10 (l : Launch) (D : va_G) (cI cL cZ cR cG cH : ClassId) (Z : zT) (kd : Nat → Nat) (L : List Nat) (f : Nat → va_E) (hG : GI (okc cI cL cZ cR cG cH L kd) kd L f) (o0 : Nat) (mo0 : o0 ∈ L) (ko0 : kd o0 = 10) : mPV l D cI cL cZ cR cG cH Z yX10_clear cX10_clear 1 none 0 0 [.ref o0] L f (fun (f9 : Nat → va_E) => GI (okc cI cL cZ cR cG cH L kd) kd L f9 ∧ (∀ b, kd b ≠ 10 → f9 b = f b)) := by
  obtain ⟨dC, dI⟩ := D
  refine Met.ofW (cc := cX10_clear) (maxL := 1) (ret := none) (by decide) rfl ?_
  intro p e s m args below meth c s₁ B hml hv
  obtain ⟨rfl, hP, hK, hD0, hN, hZ⟩ := hv
  have hx := B.exec
  have hb := B.bytes
  have hr := B.returns
  have hU : ∀ w ∈ wsU, w.before _ s = true := fun w h => atoms_spec (ws := wU yX10_clear cX10_clear 1 none) B.pre w (List.mem_cons_of_mem _ h)
  have hown : s.vm.findClass RX10 = some m.cls := findClass_of_methodNamed B.named
  have hlocks := B.notSynchronized
  have hD := pl_in hD0
  have hS : va_S (fun q => q ∈ L) s.heap s.heap [] := va_S.rf
  have hl := lv_entry ([.ref o0]) (n := 1) (Nat.le_of_ble_eq_true rfl)
  rw [lg_entry_eq]
  generalize (lg_sl ([.ref o0]) ++ List.replicate (1 - (lg_sl ([.ref o0])).length) Slot.unset).toArray = ls at hl ⊢
  have hl : lv_has ls 1 [(0, .ref o0)] := hl
  have hfr0 : ∀ b, kd b ≠ 10 → f b = f b := fun _ _ => rfl
  refine lv_aload_n hx hb dX10_clear_0 rfl (lv_at hl 0 rfl) ?_
  refine lv_iconst (v := 0) hx hb dX10_clear_1 (by decide) ?_
  obtain ⟨a_2, v_3, v_4, hfo_1, ⟨ma_2, ka_2⟩, bv_3, bv_4⟩ := un_10 (hG _ mo0) ko0
  refine tk_putP (D := (dC, dI)) (ci := 10) (v := .int 0) (ty := .int) (C := RX10) (T := TX10) (N := 3) hx hb hU inlX10 tyX10 tyX10_ok nmX10 hown hK hP hD hS mo0 hfo_1 rfl 1 (by decide) (hU _ wd_560) (fun _ h9 => h9) rfl (by decide +kernel) rfl rfl (Nat.le_of_ble_eq_true rfl) dX10_clear_2 (fun H locs hP hD hS => ?_)
  obtain ⟨f_6, ef_6⟩ : ∃ y : Nat → va_E, y = va_up f o0 (.inr (10, [.ref a_2, .int 0, .int v_4])) := ⟨_, rfl⟩
  have hP : va_P (dC, dI) vwCl (va_pl L f_6) H := by rw [ef_6]; exact hP
  have hD : va_D (fun q => q ∈ L) (va_pl L f_6) := by rw [ef_6]; exact hD
  have hG : GI (okc cI cL cZ cR cG cH L kd) kd L f_6 := by rw [ef_6]; exact hG.set o0 (mk_10 ko0 ⟨a_2, 0, v_4, rfl, ⟨ma_2, ka_2⟩, (by decide), (by constructor <;> omega)⟩)
  have hfr0 : ∀ b, kd b ≠ 10 → f_6 b = f b := fun b q10 => (congrFun ef_6 b).trans ((up_ne (fun e9 => q10 (by rw [e9]; exact ko0))).trans (hfr0 b q10))
  have hfo_7 : f_6 o0 = .inr (10, [.ref a_2, .int 0, .int v_4]) := by rw [ef_6]; exact up_self
  refine lv_aload_n hx hb dX10_clear_5 rfl (lv_at hl 0 rfl) ?_
  refine lv_iconst (v := 0) hx hb dX10_clear_6 (by decide) ?_
  refine tk_putP (D := (dC, dI)) (ci := 10) (v := .int 0) (ty := .boolean) (C := RX10) (T := TX10) (N := 3) hx hb hU inlX10 tyX10 tyX10_ok nmX10 hown hK hP hD hS mo0 hfo_7 rfl 2 (by decide) (hU _ wd_561) (fun _ h9 => h9) rfl (by decide +kernel) rfl rfl (Nat.le_of_ble_eq_true rfl) dX10_clear_7 (fun H locs hP hD hS => ?_)
  obtain ⟨f_9, ef_9⟩ : ∃ y : Nat → va_E, y = va_up f_6 o0 (.inr (10, [.ref a_2, .int 0, .int 0])) := ⟨_, rfl⟩
  have hP : va_P (dC, dI) vwCl (va_pl L f_9) H := by rw [ef_9]; exact hP
  have hD : va_D (fun q => q ∈ L) (va_pl L f_9) := by rw [ef_9]; exact hD
  have hG : GI (okc cI cL cZ cR cG cH L kd) kd L f_9 := by rw [ef_9]; exact hG.set o0 (mk_10 ko0 ⟨a_2, 0, 0, rfl, ⟨ma_2, ka_2⟩, (by decide), (by decide)⟩)
  have hfr0 : ∀ b, kd b ≠ 10 → f_9 b = f b := fun b q10 => (congrFun ef_9 b).trans ((up_ne (fun e9 => q10 (by rw [e9]; exact ko0))).trans (hfr0 b q10))
  have hfo_10 : f_9 o0 = .inr (10, [.ref a_2, .int 0, .int 0]) := by rw [ef_9]; exact up_self
  exact W.vret hx hb hr (fun t ht hW => ⟨⟨f_9, rfl, ⟨hG, hfr0⟩, by rw [ht]; exact hP, va_K.moved hW.alike hK, pl_in hD⟩, hS.F ht⟩) hS.2.2 dX10_clear_10
set_option maxHeartbeats 8000000 in
set_option maxRecDepth 100000 in
theorem s_X7_signOf_k7 (l : Launch) (D : va_G) (cI cL cZ cR cG cH : ClassId) (Z : zT) (kd : Nat → Nat) (L : List Nat) (f : Nat → va_E) (hG : GI (okc cI cL cZ cR cG cH L kd) kd L f) (o0 : Nat) (mo0 : o0 ∈ L) (ko0 : kd o0 = 7) (p1 : Int32) : mPI l D cI cL cZ cR cG cH Z yX7_signOf cX7_signOf 2 (some .int) 0 0 [.ref o0, .int p1] L f (fun (r : Int32) (f9 : Nat → va_E) => f = f9 ∧ (0 ≤ r.toInt ∧ r.toInt ≤ 8)) := by
  obtain ⟨dC, dI⟩ := D
  refine Met.ofW (cc := cX7_signOf) (maxL := 2) (ret := (some .int)) (by decide) rfl ?_
  intro p e s m args below meth c s₁ B hml hv
  obtain ⟨rfl, hP, hK, hD0, hN, hZ⟩ := hv
  have hx := B.exec
  have hb := B.bytes
  have hr := B.returns
  have hU : ∀ w ∈ wsU, w.before _ s = true := fun w h => atoms_spec (ws := wU yX7_signOf cX7_signOf 2 (some .int)) B.pre w (List.mem_cons_of_mem _ h)
  have hown : s.vm.findClass RX7 = some m.cls := findClass_of_methodNamed B.named
  have hlocks := B.notSynchronized
  have hD := pl_in hD0
  have hS : va_S (fun q => q ∈ L) s.heap s.heap [] := va_S.rf
  have hl := lv_entry ([.ref o0, .int p1]) (n := 2) (Nat.le_of_ble_eq_true rfl)
  rw [lg_entry_eq]
  generalize (lg_sl ([.ref o0, .int p1]) ++ List.replicate (2 - (lg_sl ([.ref o0, .int p1])).length) Slot.unset).toArray = ls at hl ⊢
  have hl : lv_has ls 2 [(0, .ref o0), (1, .int p1)] := hl
  have bp1 : ((-2147483648) ≤ p1.toInt ∧ p1.toInt ≤ 2147483647) := ⟨i32_lo _, i32_hi _⟩
  refine lv_iload_n hx hb dX7_signOf_0 rfl (lv_at hl 1 rfl) ?_
  refine lv_bipush (v := 97) hx hb dX7_signOf_1 (by decide) ?_
  refine lv_icmp_lt (tgt := 12) hx hb dX7_signOf_3 (by decide) (fun c_1 => ?_) (fun c_1 => ?_)
  · skip
    rw [Int32.lt_iff_toInt_lt, ti_97] at c_1
    refine lv_iconst (v := 0) hx hb dX7_signOf_12 (by decide) ?_
    refine lv_goto (tgt := 25) hx hb dX7_signOf_13 (by decide) ?_
    exact W.iret (v := 0) hx hb hr (fun t ht hW => ⟨⟨0, f, rfl, ⟨rfl, (by decide)⟩, by rw [ht]; exact hP, va_K.moved hW.alike hK, pl_in hD⟩, hS.F ht⟩) hS.2.2 dX7_signOf_25
  · skip
    rw [Int32.lt_iff_toInt_lt, ti_97] at c_1
    refine lv_iload_n hx hb dX7_signOf_6 rfl (lv_at hl 1 rfl) ?_
    refine lv_bipush (v := 122) hx hb dX7_signOf_7 (by decide) ?_
    refine lv_icmp_le (tgt := 16) hx hb dX7_signOf_9 (by decide) (fun c_2 => ?_) (fun c_2 => ?_)
    · skip
      rw [Int32.le_iff_toInt_le, ti_122] at c_2
      refine lv_aload_n hx hb dX7_signOf_16 rfl (lv_at hl 0 rfl) ?_
      obtain ⟨a_4, v_5, a_6, a_7, a_8, a_9, v_10, a_11, a_12, a_13, a_14, a_15, v_16, a_17, a_18, a_19, hfo_3, ⟨ma_4, ka_4⟩, bv_5, ⟨ma_6, ka_6⟩, ⟨ma_7, ka_7⟩, ⟨ma_8, ka_8⟩, ⟨ma_9, ka_9⟩, bv_10, ⟨ma_11, ka_11⟩, ⟨ma_12, ka_12⟩, ⟨ma_13, ka_13⟩, ⟨ma_14, ka_14⟩, ⟨ma_15, ka_15⟩, bv_16, ⟨ma_17, ka_17⟩, ⟨ma_18, ka_18⟩, ⟨ma_19, ka_19⟩⟩ := un_7 (hG _ mo0) ko0
      refine tk_getP (D := (dC, dI)) (ci := 7) (v := .ref a_4) (C := RX7) (T := TX7) (N := 16) hx hb hU inlX7 hown hK hP mo0 hfo_3 rfl 0 (by decide) (hU _ wd_72) (fun _ h9 => h9) rfl dX7_signOf_17 ?_
      refine lv_iload_n hx hb dX7_signOf_20 rfl (lv_at hl 1 rfl) ?_
      refine lv_bipush (v := 97) hx hb dX7_signOf_21 (by decide) ?_
      refine lv_isub hx hb dX7_signOf_23 ?_
      refine lv_topi (fun x_20 ex_20 => ?_)
      have hx_20 : x_20.toInt = p1.toInt - 97 := by rw [ex_20, sb_I (by rw [ti_97]; omega) (by rw [ti_97]; omega), ti_97]
      have bx_20 : (0 ≤ x_20.toInt ∧ x_20.toInt ≤ 25) := by constructor <;> omega
      obtain ⟨g_22, hfo_21, hbg_22⟩ := un_508 (hG _ ma_4) ka_4
      refine tk_ildP hx hb hK hP 0 ma_4 hfo_21 rfl (vp_in_iff.mpr (by constructor <;> omega)) dX7_signOf_24 ?_
      refine lv_topi (fun x_23 ex_23 => ?_)
      have bx_23 : (0 ≤ x_23.toInt ∧ x_23.toInt ≤ 8) := by rw [ex_23]; exact hbg_22 _
      exact W.iret (v := x_23) hx hb hr (fun t ht hW => ⟨⟨x_23, f, rfl, ⟨rfl, (by constructor <;> omega)⟩, by rw [ht]; exact hP, va_K.moved hW.alike hK, pl_in hD⟩, hS.F ht⟩) hS.2.2 dX7_signOf_25
    · skip
      rw [Int32.le_iff_toInt_le, ti_122] at c_2
      refine lv_iconst (v := 0) hx hb dX7_signOf_12 (by decide) ?_
      refine lv_goto (tgt := 25) hx hb dX7_signOf_13 (by decide) ?_
      exact W.iret (v := 0) hx hb hr (fun t ht hW => ⟨⟨0, f, rfl, ⟨rfl, (by decide)⟩, by rw [ht]; exact hP, va_K.moved hW.alike hK, pl_in hD⟩, hS.F ht⟩) hS.2.2 dX7_signOf_25
set_option maxHeartbeats 8000000 in
set_option maxRecDepth 100000 in
theorem s_X7_pairOf_k7 (l : Launch) (D : va_G) (cI cL cZ cR cG cH : ClassId) (Z : zT) (kd : Nat → Nat) (L : List Nat) (f : Nat → va_E) (hG : GI (okc cI cL cZ cR cG cH L kd) kd L f) (o0 : Nat) (mo0 : o0 ∈ L) (ko0 : kd o0 = 7) (p1 : Int32) (p2 : Int32) : mPI l D cI cL cZ cR cG cH Z yX7_pairOf cX7_pairOf 3 (some .int) 0 0 [.ref o0, .int p1, .int p2] L f (fun (r : Int32) (f9 : Nat → va_E) => f = f9 ∧ ((-1) ≤ r.toInt ∧ r.toInt ≤ 19)) := by
  obtain ⟨dC, dI⟩ := D
  refine Met.ofW (cc := cX7_pairOf) (maxL := 3) (ret := (some .int)) (by decide) rfl ?_
  intro p e s m args below meth c s₁ B hml hv
  obtain ⟨rfl, hP, hK, hD0, hN, hZ⟩ := hv
  have hx := B.exec
  have hb := B.bytes
  have hr := B.returns
  have hU : ∀ w ∈ wsU, w.before _ s = true := fun w h => atoms_spec (ws := wU yX7_pairOf cX7_pairOf 3 (some .int)) B.pre w (List.mem_cons_of_mem _ h)
  have hown : s.vm.findClass RX7 = some m.cls := findClass_of_methodNamed B.named
  have hlocks := B.notSynchronized
  have hD := pl_in hD0
  have hS : va_S (fun q => q ∈ L) s.heap s.heap [] := va_S.rf
  have hl := lv_entry ([.ref o0, .int p1, .int p2]) (n := 3) (Nat.le_of_ble_eq_true rfl)
  rw [lg_entry_eq]
  generalize (lg_sl ([.ref o0, .int p1, .int p2]) ++ List.replicate (3 - (lg_sl ([.ref o0, .int p1, .int p2])).length) Slot.unset).toArray = ls at hl ⊢
  have hl : lv_has ls 3 [(0, .ref o0), (1, .int p1), (2, .int p2)] := hl
  have bp1 : ((-2147483648) ≤ p1.toInt ∧ p1.toInt ≤ 2147483647) := ⟨i32_lo _, i32_hi _⟩
  have bp2 : ((-2147483648) ≤ p2.toInt ∧ p2.toInt ≤ 2147483647) := ⟨i32_lo _, i32_hi _⟩
  refine lv_iload_n hx hb dX7_pairOf_0 rfl (lv_at hl 1 rfl) ?_
  refine lv_if_lt (tgt := 24) hx hb dX7_pairOf_1 (by decide) (fun c_1 => ?_) (fun c_1 => ?_)
  · skip
    rw [Int32.lt_iff_toInt_lt, ti_0] at c_1
    refine lv_iconst (v := (-1)) hx hb dX7_pairOf_24 (by decide) ?_
    exact W.iret (v := (-1)) hx hb hr (fun t ht hW => ⟨⟨(-1), f, rfl, ⟨rfl, (by decide)⟩, by rw [ht]; exact hP, va_K.moved hW.alike hK, pl_in hD⟩, hS.F ht⟩) hS.2.2 dX7_pairOf_25
  · skip
    rw [Int32.lt_iff_toInt_lt, ti_0] at c_1
    refine lv_iload_n hx hb dX7_pairOf_4 rfl (lv_at hl 1 rfl) ?_
    refine lv_aload_n hx hb dX7_pairOf_5 rfl (lv_at hl 0 rfl) ?_
    obtain ⟨a_3, v_4, a_5, a_6, a_7, a_8, v_9, a_10, a_11, a_12, a_13, a_14, v_15, a_16, a_17, a_18, hfo_2, ⟨ma_3, ka_3⟩, bv_4, ⟨ma_5, ka_5⟩, ⟨ma_6, ka_6⟩, ⟨ma_7, ka_7⟩, ⟨ma_8, ka_8⟩, bv_9, ⟨ma_10, ka_10⟩, ⟨ma_11, ka_11⟩, ⟨ma_12, ka_12⟩, ⟨ma_13, ka_13⟩, ⟨ma_14, ka_14⟩, bv_15, ⟨ma_16, ka_16⟩, ⟨ma_17, ka_17⟩, ⟨ma_18, ka_18⟩⟩ := un_7 (hG _ mo0) ko0
    refine tk_getP (D := (dC, dI)) (ci := 7) (v := .int v_4) (C := RX7) (T := TX7) (N := 16) hx hb hU inlX7 hown hK hP mo0 hfo_2 rfl 1 (by decide) (hU _ wd_262) (fun _ h9 => h9) rfl dX7_pairOf_6 ?_
    refine lv_icmp_gt (tgt := 24) hx hb dX7_pairOf_9 (by decide) (fun c_19 => ?_) (fun c_19 => ?_)
    · skip
      rw [Int32.lt_iff_toInt_lt] at c_19
      refine lv_iconst (v := (-1)) hx hb dX7_pairOf_24 (by decide) ?_
      exact W.iret (v := (-1)) hx hb hr (fun t ht hW => ⟨⟨(-1), f, rfl, ⟨rfl, (by decide)⟩, by rw [ht]; exact hP, va_K.moved hW.alike hK, pl_in hD⟩, hS.F ht⟩) hS.2.2 dX7_pairOf_25
    · skip
      rw [Int32.lt_iff_toInt_lt] at c_19
      refine lv_iload_n hx hb dX7_pairOf_12 rfl (lv_at hl 2 rfl) ?_
      refine lv_if_lt (tgt := 24) hx hb dX7_pairOf_13 (by decide) (fun c_20 => ?_) (fun c_20 => ?_)
      · skip
        rw [Int32.lt_iff_toInt_lt, ti_0] at c_20
        refine lv_iconst (v := (-1)) hx hb dX7_pairOf_24 (by decide) ?_
        exact W.iret (v := (-1)) hx hb hr (fun t ht hW => ⟨⟨(-1), f, rfl, ⟨rfl, (by decide)⟩, by rw [ht]; exact hP, va_K.moved hW.alike hK, pl_in hD⟩, hS.F ht⟩) hS.2.2 dX7_pairOf_25
      · skip
        rw [Int32.lt_iff_toInt_lt, ti_0] at c_20
        refine lv_iload_n hx hb dX7_pairOf_16 rfl (lv_at hl 2 rfl) ?_
        refine lv_aload_n hx hb dX7_pairOf_17 rfl (lv_at hl 0 rfl) ?_
        refine tk_getP (D := (dC, dI)) (ci := 7) (v := .int v_4) (C := RX7) (T := TX7) (N := 16) hx hb hU inlX7 hown hK hP mo0 hfo_2 rfl 1 (by decide) (hU _ wd_262) (fun _ h9 => h9) rfl dX7_pairOf_18 ?_
        refine lv_icmp_le (tgt := 26) hx hb dX7_pairOf_21 (by decide) (fun c_21 => ?_) (fun c_21 => ?_)
        · skip
          rw [Int32.le_iff_toInt_le] at c_21
          refine lv_aload_n hx hb dX7_pairOf_26 rfl (lv_at hl 0 rfl) ?_
          refine tk_getP (D := (dC, dI)) (ci := 7) (v := .ref a_6) (C := RX7) (T := TX7) (N := 16) hx hb hU inlX7 hown hK hP mo0 hfo_2 rfl 3 (by decide) (hU _ wd_74) (fun _ h9 => h9) rfl dX7_pairOf_27 ?_
          refine lv_iload_n hx hb dX7_pairOf_30 rfl (lv_at hl 1 rfl) ?_
          refine lv_bipush (v := 9) hx hb dX7_pairOf_31 (by decide) ?_
          refine lv_imul hx hb dX7_pairOf_33 ?_
          refine lv_topi (fun x_22 ex_22 => ?_)
          have hx_22 : x_22.toInt = p1.toInt * 9 := by rw [ex_22, ml_I (by rw [ti_9]; omega) (by rw [ti_9]; omega), ti_9]
          have bx_22 : (0 ≤ x_22.toInt ∧ x_22.toInt ≤ 72) := by constructor <;> omega
          refine lv_iload_n hx hb dX7_pairOf_34 rfl (lv_at hl 2 rfl) ?_
          refine lv_iadd hx hb dX7_pairOf_35 ?_
          refine lv_topi (fun x_23 ex_23 => ?_)
          have hx_23 : x_23.toInt = x_22.toInt + p2.toInt := by rw [ex_23, ad_I (by omega) (by omega)]
          have bx_23 : (0 ≤ x_23.toInt ∧ x_23.toInt ≤ 80) := by constructor <;> omega
          obtain ⟨g_25, hfo_24, hbg_25⟩ := un_510 (hG _ ma_6) ka_6
          refine tk_ildP hx hb hK hP 0 ma_6 hfo_24 rfl (vp_in_iff.mpr (by constructor <;> omega)) dX7_pairOf_36 ?_
          refine lv_topi (fun x_26 ex_26 => ?_)
          have bx_26 : (0 ≤ x_26.toInt ∧ x_26.toInt ≤ 20) := by rw [ex_26]; exact hbg_25 _
          refine lv_iconst (v := 1) hx hb dX7_pairOf_37 (by decide) ?_
          refine lv_isub hx hb dX7_pairOf_38 ?_
          refine lv_topi (fun x_27 ex_27 => ?_)
          have hx_27 : x_27.toInt = x_26.toInt - 1 := by rw [ex_27, sb_I (by rw [ti_1]; omega) (by rw [ti_1]; omega), ti_1]
          have bx_27 : ((-1) ≤ x_27.toInt ∧ x_27.toInt ≤ 19) := by constructor <;> omega
          exact W.iret (v := x_27) hx hb hr (fun t ht hW => ⟨⟨x_27, f, rfl, ⟨rfl, (by constructor <;> omega)⟩, by rw [ht]; exact hP, va_K.moved hW.alike hK, pl_in hD⟩, hS.F ht⟩) hS.2.2 dX7_pairOf_39
        · skip
          rw [Int32.le_iff_toInt_le] at c_21
          refine lv_iconst (v := (-1)) hx hb dX7_pairOf_24 (by decide) ?_
          exact W.iret (v := (-1)) hx hb hr (fun t ht hW => ⟨⟨(-1), f, rfl, ⟨rfl, (by decide)⟩, by rw [ht]; exact hP, va_K.moved hW.alike hK, pl_in hD⟩, hS.F ht⟩) hS.2.2 dX7_pairOf_25
set_option maxHeartbeats 8000000 in
set_option maxRecDepth 100000 in
theorem s_X4_isAlways_k4 (l : Launch) (D : va_G) (cI cL cZ cR cG cH : ClassId) (Z : zT) (kd : Nat → Nat) (L : List Nat) (f : Nat → va_E) (hG : GI (okc cI cL cZ cR cG cH L kd) kd L f) (o0 : Nat) (mo0 : o0 ∈ L) (ko0 : kd o0 = 4) : mPI l D cI cL cZ cR cG cH Z yX4_isAlways cX4_isAlways 1 (some .boolean) 0 0 [.ref o0] L f (fun (r : Int32) (f9 : Nat → va_E) => f = f9 ∧ (0 ≤ r.toInt ∧ r.toInt ≤ 1)) := by
  obtain ⟨dC, dI⟩ := D
  refine Met.ofW (cc := cX4_isAlways) (maxL := 1) (ret := (some .boolean)) (by decide) rfl ?_
  intro p e s m args below meth c s₁ B hml hv
  obtain ⟨rfl, hP, hK, hD0, hN, hZ⟩ := hv
  have hx := B.exec
  have hb := B.bytes
  have hr := B.returns
  have hU : ∀ w ∈ wsU, w.before _ s = true := fun w h => atoms_spec (ws := wU yX4_isAlways cX4_isAlways 1 (some .boolean)) B.pre w (List.mem_cons_of_mem _ h)
  have hown : s.vm.findClass RX4 = some m.cls := findClass_of_methodNamed B.named
  have hlocks := B.notSynchronized
  have hD := pl_in hD0
  have hS : va_S (fun q => q ∈ L) s.heap s.heap [] := va_S.rf
  have hl := lv_entry ([.ref o0]) (n := 1) (Nat.le_of_ble_eq_true rfl)
  rw [lg_entry_eq]
  generalize (lg_sl ([.ref o0]) ++ List.replicate (1 - (lg_sl ([.ref o0])).length) Slot.unset).toArray = ls at hl ⊢
  have hl : lv_has ls 1 [(0, .ref o0)] := hl
  refine lv_aload_n hx hb dX4_isAlways_0 rfl (lv_at hl 0 rfl) ?_
  obtain ⟨v_2, v_3, v_4, v_5, a_6, a_7, a_8, a_9, v_10, v_11, v_12, hfo_1, bv_2, bv_3, bv_4, bv_5, ⟨ma_6, ka_6⟩, ⟨ma_7, ka_7⟩, ⟨ma_8, ka_8⟩, ⟨ma_9, ka_9⟩⟩ := un_4 (hG _ mo0) ko0
  have bv_10 : ((-2147483648) ≤ v_10.toInt ∧ v_10.toInt ≤ 2147483647) := ⟨i32_lo _, i32_hi _⟩
  have bv_11 : ((-2147483648) ≤ v_11.toInt ∧ v_11.toInt ≤ 2147483647) := ⟨i32_lo _, i32_hi _⟩
  have bv_12 : ((-2147483648) ≤ v_12.toInt ∧ v_12.toInt ≤ 2147483647) := ⟨i32_lo _, i32_hi _⟩
  refine tk_getP (D := (dC, dI)) (ci := 4) (v := .int v_4) (C := RX4) (T := TX4) (N := 11) hx hb hU inlX4 hown hK hP mo0 hfo_1 rfl 2 (by decide) (hU _ wd_409) (fun _ h9 => h9) rfl dX4_isAlways_1 ?_
  refine lv_iconst (v := 1) hx hb dX4_isAlways_4 (by decide) ?_
  refine lv_icmp_eq (tgt := 16) hx hb dX4_isAlways_5 (by decide) (fun c_13 => ?_) (fun c_13 => ?_)
  · skip
    rw [← Int32.toInt_inj, ti_1] at c_13
    refine lv_iconst (v := 1) hx hb dX4_isAlways_16 (by decide) ?_
    refine lv_goto (tgt := 21) hx hb dX4_isAlways_17 (by decide) ?_
    exact W.zret (v := 1) (ty := .boolean) hx hb hr rfl (fun t ht hW => ⟨⟨1, f, rfl, ⟨rfl, (by decide)⟩, by rw [ht]; exact hP, va_K.moved hW.alike hK, pl_in hD⟩, hS.F ht⟩) hS.2.2 dX4_isAlways_21
  · skip
    rw [← Int32.toInt_inj, ti_1] at c_13
    refine lv_aload_n hx hb dX4_isAlways_8 rfl (lv_at hl 0 rfl) ?_
    refine tk_getP (D := (dC, dI)) (ci := 4) (v := .int v_4) (C := RX4) (T := TX4) (N := 11) hx hb hU inlX4 hown hK hP mo0 hfo_1 rfl 2 (by decide) (hU _ wd_409) (fun _ h9 => h9) rfl dX4_isAlways_9 ?_
    refine lv_iconst (v := 2) hx hb dX4_isAlways_12 (by decide) ?_
    refine lv_icmp_ne (tgt := 20) hx hb dX4_isAlways_13 (by decide) (fun c_14 => ?_) (fun c_14 => ?_)
    · skip
      rw [← Int32.toInt_inj, ti_2] at c_14
      refine lv_iconst (v := 0) hx hb dX4_isAlways_20 (by decide) ?_
      exact W.zret (v := 0) (ty := .boolean) hx hb hr rfl (fun t ht hW => ⟨⟨0, f, rfl, ⟨rfl, (by decide)⟩, by rw [ht]; exact hP, va_K.moved hW.alike hK, pl_in hD⟩, hS.F ht⟩) hS.2.2 dX4_isAlways_21
    · skip
      rw [← Int32.toInt_inj, ti_2] at c_14
      refine lv_iconst (v := 1) hx hb dX4_isAlways_16 (by decide) ?_
      refine lv_goto (tgt := 21) hx hb dX4_isAlways_17 (by decide) ?_
      exact W.zret (v := 1) (ty := .boolean) hx hb hr rfl (fun t ht hW => ⟨⟨1, f, rfl, ⟨rfl, (by decide)⟩, by rw [ht]; exact hP, va_K.moved hW.alike hK, pl_in hD⟩, hS.F ht⟩) hS.2.2 dX4_isAlways_21
set_option maxHeartbeats 8000000 in
set_option maxRecDepth 100000 in
theorem s_X7_signOf_k207 (l : Launch) (D : va_G) (cI cL cZ cR cG cH : ClassId) (Z : zT) (kd : Nat → Nat) (L : List Nat) (f : Nat → va_E) (hG : GI (okc cI cL cZ cR cG cH L kd) kd L f) (o0 : Nat) (mo0 : o0 ∈ L) (ko0 : kd o0 = 207) (p1 : Int32) : mPI l D cI cL cZ cR cG cH Z yX7_signOf cX7_signOf 2 (some .int) 0 0 [.ref o0, .int p1] L f (fun (r : Int32) (f9 : Nat → va_E) => f = f9 ∧ (0 ≤ r.toInt ∧ r.toInt ≤ 8)) := by
  obtain ⟨dC, dI⟩ := D
  refine Met.ofW (cc := cX7_signOf) (maxL := 2) (ret := (some .int)) (by decide) rfl ?_
  intro p e s m args below meth c s₁ B hml hv
  obtain ⟨rfl, hP, hK, hD0, hN, hZ⟩ := hv
  have hx := B.exec
  have hb := B.bytes
  have hr := B.returns
  have hU : ∀ w ∈ wsU, w.before _ s = true := fun w h => atoms_spec (ws := wU yX7_signOf cX7_signOf 2 (some .int)) B.pre w (List.mem_cons_of_mem _ h)
  have hown : s.vm.findClass RX7 = some m.cls := findClass_of_methodNamed B.named
  have hlocks := B.notSynchronized
  have hD := pl_in hD0
  have hS : va_S (fun q => q ∈ L) s.heap s.heap [] := va_S.rf
  have hl := lv_entry ([.ref o0, .int p1]) (n := 2) (Nat.le_of_ble_eq_true rfl)
  rw [lg_entry_eq]
  generalize (lg_sl ([.ref o0, .int p1]) ++ List.replicate (2 - (lg_sl ([.ref o0, .int p1])).length) Slot.unset).toArray = ls at hl ⊢
  have hl : lv_has ls 2 [(0, .ref o0), (1, .int p1)] := hl
  have bp1 : ((-2147483648) ≤ p1.toInt ∧ p1.toInt ≤ 2147483647) := ⟨i32_lo _, i32_hi _⟩
  refine lv_iload_n hx hb dX7_signOf_0 rfl (lv_at hl 1 rfl) ?_
  refine lv_bipush (v := 97) hx hb dX7_signOf_1 (by decide) ?_
  refine lv_icmp_lt (tgt := 12) hx hb dX7_signOf_3 (by decide) (fun c_1 => ?_) (fun c_1 => ?_)
  · skip
    rw [Int32.lt_iff_toInt_lt, ti_97] at c_1
    refine lv_iconst (v := 0) hx hb dX7_signOf_12 (by decide) ?_
    refine lv_goto (tgt := 25) hx hb dX7_signOf_13 (by decide) ?_
    exact W.iret (v := 0) hx hb hr (fun t ht hW => ⟨⟨0, f, rfl, ⟨rfl, (by decide)⟩, by rw [ht]; exact hP, va_K.moved hW.alike hK, pl_in hD⟩, hS.F ht⟩) hS.2.2 dX7_signOf_25
  · skip
    rw [Int32.lt_iff_toInt_lt, ti_97] at c_1
    refine lv_iload_n hx hb dX7_signOf_6 rfl (lv_at hl 1 rfl) ?_
    refine lv_bipush (v := 122) hx hb dX7_signOf_7 (by decide) ?_
    refine lv_icmp_le (tgt := 16) hx hb dX7_signOf_9 (by decide) (fun c_2 => ?_) (fun c_2 => ?_)
    · skip
      rw [Int32.le_iff_toInt_le, ti_122] at c_2
      refine lv_aload_n hx hb dX7_signOf_16 rfl (lv_at hl 0 rfl) ?_
      obtain ⟨a_4, v_5, a_6, a_7, a_8, a_9, v_10, a_11, a_12, a_13, a_14, a_15, v_16, a_17, a_18, a_19, hfo_3, ⟨ma_4, ka_4⟩, bv_5, ⟨ma_6, ka_6⟩, ⟨ma_7, ka_7⟩, ⟨ma_8, ka_8⟩, ⟨ma_9, ka_9⟩, bv_10, ⟨ma_11, ka_11⟩, ⟨ma_12, ka_12⟩, ⟨ma_13, ka_13⟩, ⟨ma_14, ka_14⟩, ⟨ma_15, ka_15⟩, bv_16, ⟨ma_17, ka_17⟩, ⟨ma_18, ka_18⟩, ⟨ma_19, ka_19⟩⟩ := un_207 (hG _ mo0) ko0
      refine tk_getP (D := (dC, dI)) (ci := 7) (v := .ref a_4) (C := RX7) (T := TX7) (N := 16) hx hb hU inlX7 hown hK hP mo0 hfo_3 rfl 0 (by decide) (hU _ wd_72) (fun _ h9 => h9) rfl dX7_signOf_17 ?_
      refine lv_iload_n hx hb dX7_signOf_20 rfl (lv_at hl 1 rfl) ?_
      refine lv_bipush (v := 97) hx hb dX7_signOf_21 (by decide) ?_
      refine lv_isub hx hb dX7_signOf_23 ?_
      refine lv_topi (fun x_20 ex_20 => ?_)
      have hx_20 : x_20.toInt = p1.toInt - 97 := by rw [ex_20, sb_I (by rw [ti_97]; omega) (by rw [ti_97]; omega), ti_97]
      have bx_20 : (0 ≤ x_20.toInt ∧ x_20.toInt ≤ 25) := by constructor <;> omega
      obtain ⟨g_22, hfo_21, hbg_22⟩ := un_566 (hG _ ma_4) ka_4
      refine tk_ildP hx hb hK hP 0 ma_4 hfo_21 rfl (vp_in_iff.mpr (by constructor <;> omega)) dX7_signOf_24 ?_
      refine lv_topi (fun x_23 ex_23 => ?_)
      have bx_23 : (0 ≤ x_23.toInt ∧ x_23.toInt ≤ 8) := by rw [ex_23]; exact hbg_22 _
      exact W.iret (v := x_23) hx hb hr (fun t ht hW => ⟨⟨x_23, f, rfl, ⟨rfl, (by constructor <;> omega)⟩, by rw [ht]; exact hP, va_K.moved hW.alike hK, pl_in hD⟩, hS.F ht⟩) hS.2.2 dX7_signOf_25
    · skip
      rw [Int32.le_iff_toInt_le, ti_122] at c_2
      refine lv_iconst (v := 0) hx hb dX7_signOf_12 (by decide) ?_
      refine lv_goto (tgt := 25) hx hb dX7_signOf_13 (by decide) ?_
      exact W.iret (v := 0) hx hb hr (fun t ht hW => ⟨⟨0, f, rfl, ⟨rfl, (by decide)⟩, by rw [ht]; exact hP, va_K.moved hW.alike hK, pl_in hD⟩, hS.F ht⟩) hS.2.2 dX7_signOf_25
set_option maxHeartbeats 8000000 in
set_option maxRecDepth 100000 in
theorem s_X7_pairOf_k207 (l : Launch) (D : va_G) (cI cL cZ cR cG cH : ClassId) (Z : zT) (kd : Nat → Nat) (L : List Nat) (f : Nat → va_E) (hG : GI (okc cI cL cZ cR cG cH L kd) kd L f) (o0 : Nat) (mo0 : o0 ∈ L) (ko0 : kd o0 = 207) (p1 : Int32) (p2 : Int32) : mPI l D cI cL cZ cR cG cH Z yX7_pairOf cX7_pairOf 3 (some .int) 0 0 [.ref o0, .int p1, .int p2] L f (fun (r : Int32) (f9 : Nat → va_E) => f = f9 ∧ ((-1) ≤ r.toInt ∧ r.toInt ≤ 19)) := by
  obtain ⟨dC, dI⟩ := D
  refine Met.ofW (cc := cX7_pairOf) (maxL := 3) (ret := (some .int)) (by decide) rfl ?_
  intro p e s m args below meth c s₁ B hml hv
  obtain ⟨rfl, hP, hK, hD0, hN, hZ⟩ := hv
  have hx := B.exec
  have hb := B.bytes
  have hr := B.returns
  have hU : ∀ w ∈ wsU, w.before _ s = true := fun w h => atoms_spec (ws := wU yX7_pairOf cX7_pairOf 3 (some .int)) B.pre w (List.mem_cons_of_mem _ h)
  have hown : s.vm.findClass RX7 = some m.cls := findClass_of_methodNamed B.named
  have hlocks := B.notSynchronized
  have hD := pl_in hD0
  have hS : va_S (fun q => q ∈ L) s.heap s.heap [] := va_S.rf
  have hl := lv_entry ([.ref o0, .int p1, .int p2]) (n := 3) (Nat.le_of_ble_eq_true rfl)
  rw [lg_entry_eq]
  generalize (lg_sl ([.ref o0, .int p1, .int p2]) ++ List.replicate (3 - (lg_sl ([.ref o0, .int p1, .int p2])).length) Slot.unset).toArray = ls at hl ⊢
  have hl : lv_has ls 3 [(0, .ref o0), (1, .int p1), (2, .int p2)] := hl
  have bp1 : ((-2147483648) ≤ p1.toInt ∧ p1.toInt ≤ 2147483647) := ⟨i32_lo _, i32_hi _⟩
  have bp2 : ((-2147483648) ≤ p2.toInt ∧ p2.toInt ≤ 2147483647) := ⟨i32_lo _, i32_hi _⟩
  refine lv_iload_n hx hb dX7_pairOf_0 rfl (lv_at hl 1 rfl) ?_
  refine lv_if_lt (tgt := 24) hx hb dX7_pairOf_1 (by decide) (fun c_1 => ?_) (fun c_1 => ?_)
  · skip
    rw [Int32.lt_iff_toInt_lt, ti_0] at c_1
    refine lv_iconst (v := (-1)) hx hb dX7_pairOf_24 (by decide) ?_
    exact W.iret (v := (-1)) hx hb hr (fun t ht hW => ⟨⟨(-1), f, rfl, ⟨rfl, (by decide)⟩, by rw [ht]; exact hP, va_K.moved hW.alike hK, pl_in hD⟩, hS.F ht⟩) hS.2.2 dX7_pairOf_25
  · skip
    rw [Int32.lt_iff_toInt_lt, ti_0] at c_1
    refine lv_iload_n hx hb dX7_pairOf_4 rfl (lv_at hl 1 rfl) ?_
    refine lv_aload_n hx hb dX7_pairOf_5 rfl (lv_at hl 0 rfl) ?_
    obtain ⟨a_3, v_4, a_5, a_6, a_7, a_8, v_9, a_10, a_11, a_12, a_13, a_14, v_15, a_16, a_17, a_18, hfo_2, ⟨ma_3, ka_3⟩, bv_4, ⟨ma_5, ka_5⟩, ⟨ma_6, ka_6⟩, ⟨ma_7, ka_7⟩, ⟨ma_8, ka_8⟩, bv_9, ⟨ma_10, ka_10⟩, ⟨ma_11, ka_11⟩, ⟨ma_12, ka_12⟩, ⟨ma_13, ka_13⟩, ⟨ma_14, ka_14⟩, bv_15, ⟨ma_16, ka_16⟩, ⟨ma_17, ka_17⟩, ⟨ma_18, ka_18⟩⟩ := un_207 (hG _ mo0) ko0
    refine tk_getP (D := (dC, dI)) (ci := 7) (v := .int v_4) (C := RX7) (T := TX7) (N := 16) hx hb hU inlX7 hown hK hP mo0 hfo_2 rfl 1 (by decide) (hU _ wd_262) (fun _ h9 => h9) rfl dX7_pairOf_6 ?_
    refine lv_icmp_gt (tgt := 24) hx hb dX7_pairOf_9 (by decide) (fun c_19 => ?_) (fun c_19 => ?_)
    · skip
      rw [Int32.lt_iff_toInt_lt] at c_19
      refine lv_iconst (v := (-1)) hx hb dX7_pairOf_24 (by decide) ?_
      exact W.iret (v := (-1)) hx hb hr (fun t ht hW => ⟨⟨(-1), f, rfl, ⟨rfl, (by decide)⟩, by rw [ht]; exact hP, va_K.moved hW.alike hK, pl_in hD⟩, hS.F ht⟩) hS.2.2 dX7_pairOf_25
    · skip
      rw [Int32.lt_iff_toInt_lt] at c_19
      refine lv_iload_n hx hb dX7_pairOf_12 rfl (lv_at hl 2 rfl) ?_
      refine lv_if_lt (tgt := 24) hx hb dX7_pairOf_13 (by decide) (fun c_20 => ?_) (fun c_20 => ?_)
      · skip
        rw [Int32.lt_iff_toInt_lt, ti_0] at c_20
        refine lv_iconst (v := (-1)) hx hb dX7_pairOf_24 (by decide) ?_
        exact W.iret (v := (-1)) hx hb hr (fun t ht hW => ⟨⟨(-1), f, rfl, ⟨rfl, (by decide)⟩, by rw [ht]; exact hP, va_K.moved hW.alike hK, pl_in hD⟩, hS.F ht⟩) hS.2.2 dX7_pairOf_25
      · skip
        rw [Int32.lt_iff_toInt_lt, ti_0] at c_20
        refine lv_iload_n hx hb dX7_pairOf_16 rfl (lv_at hl 2 rfl) ?_
        refine lv_aload_n hx hb dX7_pairOf_17 rfl (lv_at hl 0 rfl) ?_
        refine tk_getP (D := (dC, dI)) (ci := 7) (v := .int v_4) (C := RX7) (T := TX7) (N := 16) hx hb hU inlX7 hown hK hP mo0 hfo_2 rfl 1 (by decide) (hU _ wd_262) (fun _ h9 => h9) rfl dX7_pairOf_18 ?_
        refine lv_icmp_le (tgt := 26) hx hb dX7_pairOf_21 (by decide) (fun c_21 => ?_) (fun c_21 => ?_)
        · skip
          rw [Int32.le_iff_toInt_le] at c_21
          refine lv_aload_n hx hb dX7_pairOf_26 rfl (lv_at hl 0 rfl) ?_
          refine tk_getP (D := (dC, dI)) (ci := 7) (v := .ref a_6) (C := RX7) (T := TX7) (N := 16) hx hb hU inlX7 hown hK hP mo0 hfo_2 rfl 3 (by decide) (hU _ wd_74) (fun _ h9 => h9) rfl dX7_pairOf_27 ?_
          refine lv_iload_n hx hb dX7_pairOf_30 rfl (lv_at hl 1 rfl) ?_
          refine lv_bipush (v := 9) hx hb dX7_pairOf_31 (by decide) ?_
          refine lv_imul hx hb dX7_pairOf_33 ?_
          refine lv_topi (fun x_22 ex_22 => ?_)
          have hx_22 : x_22.toInt = p1.toInt * 9 := by rw [ex_22, ml_I (by rw [ti_9]; omega) (by rw [ti_9]; omega), ti_9]
          have bx_22 : (0 ≤ x_22.toInt ∧ x_22.toInt ≤ 72) := by constructor <;> omega
          refine lv_iload_n hx hb dX7_pairOf_34 rfl (lv_at hl 2 rfl) ?_
          refine lv_iadd hx hb dX7_pairOf_35 ?_
          refine lv_topi (fun x_23 ex_23 => ?_)
          have hx_23 : x_23.toInt = x_22.toInt + p2.toInt := by rw [ex_23, ad_I (by omega) (by omega)]
          have bx_23 : (0 ≤ x_23.toInt ∧ x_23.toInt ≤ 80) := by constructor <;> omega
          obtain ⟨g_25, hfo_24, hbg_25⟩ := un_568 (hG _ ma_6) ka_6
          refine tk_ildP hx hb hK hP 0 ma_6 hfo_24 rfl (vp_in_iff.mpr (by constructor <;> omega)) dX7_pairOf_36 ?_
          refine lv_topi (fun x_26 ex_26 => ?_)
          have bx_26 : (0 ≤ x_26.toInt ∧ x_26.toInt ≤ 20) := by rw [ex_26]; exact hbg_25 _
          refine lv_iconst (v := 1) hx hb dX7_pairOf_37 (by decide) ?_
          refine lv_isub hx hb dX7_pairOf_38 ?_
          refine lv_topi (fun x_27 ex_27 => ?_)
          have hx_27 : x_27.toInt = x_26.toInt - 1 := by rw [ex_27, sb_I (by rw [ti_1]; omega) (by rw [ti_1]; omega), ti_1]
          have bx_27 : ((-1) ≤ x_27.toInt ∧ x_27.toInt ≤ 19) := by constructor <;> omega
          exact W.iret (v := x_27) hx hb hr (fun t ht hW => ⟨⟨x_27, f, rfl, ⟨rfl, (by constructor <;> omega)⟩, by rw [ht]; exact hP, va_K.moved hW.alike hK, pl_in hD⟩, hS.F ht⟩) hS.2.2 dX7_pairOf_39
        · skip
          rw [Int32.le_iff_toInt_le] at c_21
          refine lv_iconst (v := (-1)) hx hb dX7_pairOf_24 (by decide) ?_
          exact W.iret (v := (-1)) hx hb hr (fun t ht hW => ⟨⟨(-1), f, rfl, ⟨rfl, (by decide)⟩, by rw [ht]; exact hP, va_K.moved hW.alike hK, pl_in hD⟩, hS.F ht⟩) hS.2.2 dX7_pairOf_25
set_option maxHeartbeats 8000000 in
set_option maxRecDepth 100000 in
theorem s_X4_isAlways_k204 (l : Launch) (D : va_G) (cI cL cZ cR cG cH : ClassId) (Z : zT) (kd : Nat → Nat) (L : List Nat) (f : Nat → va_E) (hG : GI (okc cI cL cZ cR cG cH L kd) kd L f) (o0 : Nat) (mo0 : o0 ∈ L) (ko0 : kd o0 = 204) : mPI l D cI cL cZ cR cG cH Z yX4_isAlways cX4_isAlways 1 (some .boolean) 0 0 [.ref o0] L f (fun (r : Int32) (f9 : Nat → va_E) => f = f9 ∧ (0 ≤ r.toInt ∧ r.toInt ≤ 1)) := by
  obtain ⟨dC, dI⟩ := D
  refine Met.ofW (cc := cX4_isAlways) (maxL := 1) (ret := (some .boolean)) (by decide) rfl ?_
  intro p e s m args below meth c s₁ B hml hv
  obtain ⟨rfl, hP, hK, hD0, hN, hZ⟩ := hv
  have hx := B.exec
  have hb := B.bytes
  have hr := B.returns
  have hU : ∀ w ∈ wsU, w.before _ s = true := fun w h => atoms_spec (ws := wU yX4_isAlways cX4_isAlways 1 (some .boolean)) B.pre w (List.mem_cons_of_mem _ h)
  have hown : s.vm.findClass RX4 = some m.cls := findClass_of_methodNamed B.named
  have hlocks := B.notSynchronized
  have hD := pl_in hD0
  have hS : va_S (fun q => q ∈ L) s.heap s.heap [] := va_S.rf
  have hl := lv_entry ([.ref o0]) (n := 1) (Nat.le_of_ble_eq_true rfl)
  rw [lg_entry_eq]
  generalize (lg_sl ([.ref o0]) ++ List.replicate (1 - (lg_sl ([.ref o0])).length) Slot.unset).toArray = ls at hl ⊢
  have hl : lv_has ls 1 [(0, .ref o0)] := hl
  refine lv_aload_n hx hb dX4_isAlways_0 rfl (lv_at hl 0 rfl) ?_
  obtain ⟨v_2, v_3, v_4, v_5, a_6, a_7, a_8, a_9, v_10, v_11, v_12, hfo_1, bv_2, bv_3, bv_4, bv_5, ⟨ma_6, ka_6⟩, ⟨ma_7, ka_7⟩, ⟨ma_8, ka_8⟩, ⟨ma_9, ka_9⟩⟩ := un_204 (hG _ mo0) ko0
  have bv_10 : ((-2147483648) ≤ v_10.toInt ∧ v_10.toInt ≤ 2147483647) := ⟨i32_lo _, i32_hi _⟩
  have bv_11 : ((-2147483648) ≤ v_11.toInt ∧ v_11.toInt ≤ 2147483647) := ⟨i32_lo _, i32_hi _⟩
  have bv_12 : ((-2147483648) ≤ v_12.toInt ∧ v_12.toInt ≤ 2147483647) := ⟨i32_lo _, i32_hi _⟩
  refine tk_getP (D := (dC, dI)) (ci := 4) (v := .int v_4) (C := RX4) (T := TX4) (N := 11) hx hb hU inlX4 hown hK hP mo0 hfo_1 rfl 2 (by decide) (hU _ wd_409) (fun _ h9 => h9) rfl dX4_isAlways_1 ?_
  refine lv_iconst (v := 1) hx hb dX4_isAlways_4 (by decide) ?_
  refine lv_icmp_eq (tgt := 16) hx hb dX4_isAlways_5 (by decide) (fun c_13 => ?_) (fun c_13 => ?_)
  · skip
    rw [← Int32.toInt_inj, ti_1] at c_13
    refine lv_iconst (v := 1) hx hb dX4_isAlways_16 (by decide) ?_
    refine lv_goto (tgt := 21) hx hb dX4_isAlways_17 (by decide) ?_
    exact W.zret (v := 1) (ty := .boolean) hx hb hr rfl (fun t ht hW => ⟨⟨1, f, rfl, ⟨rfl, (by decide)⟩, by rw [ht]; exact hP, va_K.moved hW.alike hK, pl_in hD⟩, hS.F ht⟩) hS.2.2 dX4_isAlways_21
  · skip
    rw [← Int32.toInt_inj, ti_1] at c_13
    refine lv_aload_n hx hb dX4_isAlways_8 rfl (lv_at hl 0 rfl) ?_
    refine tk_getP (D := (dC, dI)) (ci := 4) (v := .int v_4) (C := RX4) (T := TX4) (N := 11) hx hb hU inlX4 hown hK hP mo0 hfo_1 rfl 2 (by decide) (hU _ wd_409) (fun _ h9 => h9) rfl dX4_isAlways_9 ?_
    refine lv_iconst (v := 2) hx hb dX4_isAlways_12 (by decide) ?_
    refine lv_icmp_ne (tgt := 20) hx hb dX4_isAlways_13 (by decide) (fun c_14 => ?_) (fun c_14 => ?_)
    · skip
      rw [← Int32.toInt_inj, ti_2] at c_14
      refine lv_iconst (v := 0) hx hb dX4_isAlways_20 (by decide) ?_
      exact W.zret (v := 0) (ty := .boolean) hx hb hr rfl (fun t ht hW => ⟨⟨0, f, rfl, ⟨rfl, (by decide)⟩, by rw [ht]; exact hP, va_K.moved hW.alike hK, pl_in hD⟩, hS.F ht⟩) hS.2.2 dX4_isAlways_21
    · skip
      rw [← Int32.toInt_inj, ti_2] at c_14
      refine lv_iconst (v := 1) hx hb dX4_isAlways_16 (by decide) ?_
      refine lv_goto (tgt := 21) hx hb dX4_isAlways_17 (by decide) ?_
      exact W.zret (v := 1) (ty := .boolean) hx hb hr rfl (fun t ht hW => ⟨⟨1, f, rfl, ⟨rfl, (by decide)⟩, by rw [ht]; exact hP, va_K.moved hW.alike hK, pl_in hD⟩, hS.F ht⟩) hS.2.2 dX4_isAlways_21
set_option maxHeartbeats 8000000 in
set_option maxRecDepth 100000 in
theorem s_X4_roleOf_k204 (l : Launch) (D : va_G) (cI cL cZ cR cG cH : ClassId) (Z : zT) (kd : Nat → Nat) (L : List Nat) (f : Nat → va_E) (hG : GI (okc cI cL cZ cR cG cH L kd) kd L f) (o0 : Nat) (mo0 : o0 ∈ L) (ko0 : kd o0 = 204) (p1 : Int32) (p2 : Int32) : mPI l D cI cL cZ cR cG cH Z yX4_roleOf cX4_roleOf 3 (some .int) 1 20 [.ref o0, .int p1, .int p2] L f (fun (r : Int32) (f9 : Nat → va_E) => f = f9 ∧ (0 ≤ r.toInt ∧ r.toInt ≤ 2)) := by
  obtain ⟨dC, dI⟩ := D
  refine Met.ofW (cc := cX4_roleOf) (maxL := 3) (ret := (some .int)) (by decide) rfl ?_
  intro p e s m args below meth c s₁ B hml hv
  obtain ⟨rfl, hP, hK, hD0, hN, hZ⟩ := hv
  have hx := B.exec
  have hb := B.bytes
  have hr := B.returns
  have hU : ∀ w ∈ wsU, w.before _ s = true := fun w h => atoms_spec (ws := wU yX4_roleOf cX4_roleOf 3 (some .int)) B.pre w (List.mem_cons_of_mem _ h)
  have hown : s.vm.findClass RX4 = some m.cls := findClass_of_methodNamed B.named
  have hlocks := B.notSynchronized
  have hD := pl_in hD0
  have hS : va_S (fun q => q ∈ L) s.heap s.heap [] := va_S.rf
  have hl := lv_entry ([.ref o0, .int p1, .int p2]) (n := 3) (Nat.le_of_ble_eq_true rfl)
  rw [lg_entry_eq]
  generalize (lg_sl ([.ref o0, .int p1, .int p2]) ++ List.replicate (3 - (lg_sl ([.ref o0, .int p1, .int p2])).length) Slot.unset).toArray = ls at hl ⊢
  have hl : lv_has ls 3 [(0, .ref o0), (1, .int p1), (2, .int p2)] := hl
  have bp1 : ((-2147483648) ≤ p1.toInt ∧ p1.toInt ≤ 2147483647) := ⟨i32_lo _, i32_hi _⟩
  have bp2 : ((-2147483648) ≤ p2.toInt ∧ p2.toInt ≤ 2147483647) := ⟨i32_lo _, i32_hi _⟩
  refine lv_iload_n hx hb dX4_roleOf_0 rfl (lv_at hl 1 rfl) ?_
  refine lv_aload_n hx hb dX4_roleOf_1 rfl (lv_at hl 0 rfl) ?_
  obtain ⟨v_2, v_3, v_4, v_5, a_6, a_7, a_8, a_9, v_10, v_11, v_12, hfo_1, bv_2, bv_3, bv_4, bv_5, ⟨ma_6, ka_6⟩, ⟨ma_7, ka_7⟩, ⟨ma_8, ka_8⟩, ⟨ma_9, ka_9⟩⟩ := un_204 (hG _ mo0) ko0
  have bv_10 : ((-2147483648) ≤ v_10.toInt ∧ v_10.toInt ≤ 2147483647) := ⟨i32_lo _, i32_hi _⟩
  have bv_11 : ((-2147483648) ≤ v_11.toInt ∧ v_11.toInt ≤ 2147483647) := ⟨i32_lo _, i32_hi _⟩
  have bv_12 : ((-2147483648) ≤ v_12.toInt ∧ v_12.toInt ≤ 2147483647) := ⟨i32_lo _, i32_hi _⟩
  refine tk_getP (D := (dC, dI)) (ci := 4) (v := .int v_2) (C := RX4) (T := TX4) (N := 11) hx hb hU inlX4 hown hK hP mo0 hfo_1 rfl 0 (by decide) (hU _ wd_407) (fun _ h9 => h9) rfl dX4_roleOf_2 ?_
  refine lv_icmp_eq (tgt := 10) hx hb dX4_roleOf_5 (by decide) (fun c_13 => ?_) (fun c_13 => ?_)
  · skip
    rw [← Int32.toInt_inj] at c_13
    refine lv_iload_n hx hb dX4_roleOf_10 rfl (lv_at hl 2 rfl) ?_
    refine lv_aload_n hx hb dX4_roleOf_11 rfl (lv_at hl 0 rfl) ?_
    refine tk_getP (D := (dC, dI)) (ci := 4) (v := .int v_3) (C := RX4) (T := TX4) (N := 11) hx hb hU inlX4 hown hK hP mo0 hfo_1 rfl 1 (by decide) (hU _ wd_408) (fun _ h9 => h9) rfl dX4_roleOf_12 ?_
    refine lv_icmp_eq (tgt := 31) hx hb dX4_roleOf_15 (by decide) (fun c_14 => ?_) (fun c_14 => ?_)
    · skip
      rw [← Int32.toInt_inj] at c_14
      refine lv_aload_n hx hb dX4_roleOf_31 rfl (lv_at hl 0 rfl) ?_
      refine tk_getP (D := (dC, dI)) (ci := 4) (v := .int v_4) (C := RX4) (T := TX4) (N := 11) hx hb hU inlX4 hown hK hP mo0 hfo_1 rfl 2 (by decide) (hU _ wd_409) (fun _ h9 => h9) rfl dX4_roleOf_32 ?_
      refine lv_iconst (v := 3) hx hb dX4_roleOf_35 (by decide) ?_
      refine lv_icmp_ne (tgt := 41) hx hb dX4_roleOf_36 (by decide) (fun c_15 => ?_) (fun c_15 => ?_)
      · skip
        rw [← Int32.toInt_inj, ti_3] at c_15
        refine lv_aload_n hx hb dX4_roleOf_41 rfl (lv_at hl 0 rfl) ?_
        refine tk_getP (D := (dC, dI)) (ci := 4) (v := .int v_4) (C := RX4) (T := TX4) (N := 11) hx hb hU inlX4 hown hK hP mo0 hfo_1 rfl 2 (by decide) (hU _ wd_409) (fun _ h9 => h9) rfl dX4_roleOf_42 ?_
        refine lv_iconst (v := 1) hx hb dX4_roleOf_45 (by decide) ?_
        refine lv_icmp_ne (tgt := 53) hx hb dX4_roleOf_46 (by decide) (fun c_16 => ?_) (fun c_16 => ?_)
        · skip
          rw [← Int32.toInt_inj, ti_1] at c_16
          refine lv_iconst (v := 1) hx hb dX4_roleOf_53 (by decide) ?_
          exact W.iret (v := 1) hx hb hr (fun t ht hW => ⟨⟨1, f, rfl, ⟨rfl, (by decide)⟩, by rw [ht]; exact hP, va_K.moved hW.alike hK, pl_in hD⟩, hS.F ht⟩) hS.2.2 dX4_roleOf_54
        · skip
          rw [← Int32.toInt_inj, ti_1] at c_16
          refine lv_iconst (v := 0) hx hb dX4_roleOf_49 (by decide) ?_
          refine lv_goto (tgt := 54) hx hb dX4_roleOf_50 (by decide) ?_
          exact W.iret (v := 0) hx hb hr (fun t ht hW => ⟨⟨0, f, rfl, ⟨rfl, (by decide)⟩, by rw [ht]; exact hP, va_K.moved hW.alike hK, pl_in hD⟩, hS.F ht⟩) hS.2.2 dX4_roleOf_54
      · skip
        rw [← Int32.toInt_inj, ti_3] at c_15
        refine lv_iconst (v := 2) hx hb dX4_roleOf_39 (by decide) ?_
        exact W.iret (v := 2) hx hb hr (fun t ht hW => ⟨⟨2, f, rfl, ⟨rfl, (by decide)⟩, by rw [ht]; exact hP, va_K.moved hW.alike hK, pl_in hD⟩, hS.F ht⟩) hS.2.2 dX4_roleOf_40
    · skip
      rw [← Int32.toInt_inj] at c_14
      refine lv_aload_n hx hb dX4_roleOf_18 rfl (lv_at hl 0 rfl) ?_
      refine tk_ViP (As := []) (rest := []) (n := 0) hx hb hml hown hU hN hZ (s_X4_isAlways_k204 l (dC, dI) cI cL cZ cR cG cH Z kd L f hG o0 mo0 ko0) wd_511 wd_429 wd_430 wd_90 wd_431 (by decide +kernel) ⟨Nat.le_of_ble_eq_true rfl, Nat.le_of_ble_eq_true rfl⟩ hK hP hD hS mo0 hfo_1 4 rfl rfl rfl hl.1 rfl (Nat.le_of_ble_eq_true rfl) dX4_roleOf_19 ⟨Nat.le_of_ble_eq_true rfl, Nat.le_of_ble_eq_true rfl⟩ (fun x_17 f_18 H locs hw hP hD hS => ?_)
      obtain ⟨rfl, bx_17⟩ := hw
      refine lv_if_eq (tgt := 29) hx hb dX4_roleOf_22 (by decide) (fun c_20 => ?_) (fun c_20 => ?_)
      · skip
        rw [← Int32.toInt_inj, ti_0] at c_20
        refine lv_iconst (v := 0) hx hb dX4_roleOf_29 (by decide) ?_
        exact W.iret (v := 0) hx hb hr (fun t ht hW => ⟨⟨0, f, rfl, ⟨rfl, (by decide)⟩, by rw [ht]; exact hP, va_K.moved hW.alike hK, pl_in hD⟩, hS.F ht⟩) hS.2.2 dX4_roleOf_30
      · skip
        rw [← Int32.toInt_inj, ti_0] at c_20
        refine lv_iconst (v := 2) hx hb dX4_roleOf_25 (by decide) ?_
        refine lv_goto (tgt := 30) hx hb dX4_roleOf_26 (by decide) ?_
        exact W.iret (v := 2) hx hb hr (fun t ht hW => ⟨⟨2, f, rfl, ⟨rfl, (by decide)⟩, by rw [ht]; exact hP, va_K.moved hW.alike hK, pl_in hD⟩, hS.F ht⟩) hS.2.2 dX4_roleOf_30
  · skip
    rw [← Int32.toInt_inj] at c_13
    refine lv_iconst (v := 0) hx hb dX4_roleOf_8 (by decide) ?_
    exact W.iret (v := 0) hx hb hr (fun t ht hW => ⟨⟨0, f, rfl, ⟨rfl, (by decide)⟩, by rw [ht]; exact hP, va_K.moved hW.alike hK, pl_in hD⟩, hS.F ht⟩) hS.2.2 dX4_roleOf_9
set_option maxHeartbeats 8000000 in
set_option maxRecDepth 100000 in
theorem s_X4_clear_k204 (l : Launch) (D : va_G) (cI cL cZ cR cG cH : ClassId) (Z : zT) (kd : Nat → Nat) (L : List Nat) (f : Nat → va_E) (hG : GI (okc cI cL cZ cR cG cH L kd) kd L f) (o0 : Nat) (mo0 : o0 ∈ L) (ko0 : kd o0 = 204) (p1 : Int32) (bp1 : (0 ≤ p1.toInt ∧ p1.toInt ≤ 8)) (p2 : Int32) (bp2 : (0 ≤ p2.toInt ∧ p2.toInt ≤ 8)) : mPV l D cI cL cZ cR cG cH Z yX4_clear cX4_clear 3 none 2 43 [.ref o0, .int p1, .int p2] L f (fun (f9 : Nat → va_E) => GI (okc cI cL cZ cR cG cH L kd) kd L f9 ∧ (∀ b, kd b ≠ 204 → kd b ≠ 205 → kd b ≠ 558 → kd b ≠ 559 → f9 b = f b) ∧ (∀ (w1 z1 : Int32) (w3 z3 : Int32), fldI (f o0) 1 = some w1 → fldI (f o0) 3 = some w3 → fldI (f9 o0) 1 = some z1 → fldI (f9 o0) 3 = some z3 → z1.toInt = p2.toInt ∧ z3.toInt = 0)) := by
  obtain ⟨dC, dI⟩ := D
  refine Met.ofW (cc := cX4_clear) (maxL := 3) (ret := none) (by decide) rfl ?_
  intro p e s m args below meth c s₁ B hml hv
  obtain ⟨rfl, hP, hK, hD0, hN, hZ⟩ := hv
  have hx := B.exec
  have hb := B.bytes
  have hr := B.returns
  have hU : ∀ w ∈ wsU, w.before _ s = true := fun w h => atoms_spec (ws := wU yX4_clear cX4_clear 3 none) B.pre w (List.mem_cons_of_mem _ h)
  have hown : s.vm.findClass RX4 = some m.cls := findClass_of_methodNamed B.named
  have hlocks := B.notSynchronized
  have hD := pl_in hD0
  have hS : va_S (fun q => q ∈ L) s.heap s.heap [] := va_S.rf
  have hl := lv_entry ([.ref o0, .int p1, .int p2]) (n := 3) (Nat.le_of_ble_eq_true rfl)
  rw [lg_entry_eq]
  generalize (lg_sl ([.ref o0, .int p1, .int p2]) ++ List.replicate (3 - (lg_sl ([.ref o0, .int p1, .int p2])).length) Slot.unset).toArray = ls at hl ⊢
  have hl : lv_has ls 3 [(0, .ref o0), (1, .int p1), (2, .int p2)] := hl
  have hfr0 : ∀ b, kd b ≠ 204 → kd b ≠ 205 → kd b ≠ 558 → kd b ≠ 559 → f b = f b := fun _ _ _ _ _ => rfl
  obtain ⟨v_2, v_3, v_4, v_5, a_6, a_7, a_8, a_9, v_10, v_11, v_12, hfo_1, bv_2, bv_3, bv_4, bv_5, ⟨ma_6, ka_6⟩, ⟨ma_7, ka_7⟩, ⟨ma_8, ka_8⟩, ⟨ma_9, ka_9⟩⟩ := un_204 (hG _ mo0) ko0
  have bv_10 : ((-2147483648) ≤ v_10.toInt ∧ v_10.toInt ≤ 2147483647) := ⟨i32_lo _, i32_hi _⟩
  have bv_11 : ((-2147483648) ≤ v_11.toInt ∧ v_11.toInt ≤ 2147483647) := ⟨i32_lo _, i32_hi _⟩
  have bv_12 : ((-2147483648) ≤ v_12.toInt ∧ v_12.toInt ≤ 2147483647) := ⟨i32_lo _, i32_hi _⟩
  refine lv_aload_n hx hb dX4_clear_0 rfl (lv_at hl 0 rfl) ?_
  refine lv_iload_n hx hb dX4_clear_1 rfl (lv_at hl 1 rfl) ?_
  refine tk_putP (D := (dC, dI)) (ci := 4) (v := .int p1) (ty := .int) (C := RX4) (T := TX4) (N := 11) hx hb hU inlX4 tyX4 tyX4_ok nmX4 hown hK hP hD hS mo0 hfo_1 rfl 0 (by decide) (hU _ wd_407) (fun _ h9 => h9) rfl (by decide +kernel) rfl rfl (Nat.le_of_ble_eq_true rfl) dX4_clear_2 (fun H locs hP hD hS => ?_)
  obtain ⟨f_14, ef_14⟩ : ∃ y : Nat → va_E, y = va_up f o0 (.inr (4, [.int p1, .int v_3, .int v_4, .int v_5, .ref a_6, .ref a_7, .ref a_8, .ref a_9, .int v_10, .int v_11, .int v_12])) := ⟨_, rfl⟩
  have hP : va_P (dC, dI) vwCl (va_pl L f_14) H := by rw [ef_14]; exact hP
  have hD : va_D (fun q => q ∈ L) (va_pl L f_14) := by rw [ef_14]; exact hD
  have hG : GI (okc cI cL cZ cR cG cH L kd) kd L f_14 := by rw [ef_14]; exact hG.set o0 (mk_204 ko0 ⟨p1, v_3, v_4, v_5, a_6, a_7, a_8, a_9, v_10, v_11, v_12, rfl, (by constructor <;> omega), (by constructor <;> omega), (by constructor <;> omega), (by constructor <;> omega), ⟨ma_6, ka_6⟩, ⟨ma_7, ka_7⟩, ⟨ma_8, ka_8⟩, ⟨ma_9, ka_9⟩⟩)
  have hfr0 : ∀ b, kd b ≠ 204 → kd b ≠ 205 → kd b ≠ 558 → kd b ≠ 559 → f_14 b = f b := fun b q204 q205 q558 q559 => (congrFun ef_14 b).trans ((up_ne (fun e9 => q204 (by rw [e9]; exact ko0))).trans (hfr0 b q204 q205 q558 q559))
  have hfo_15 : f_14 o0 = .inr (4, [.int p1, .int v_3, .int v_4, .int v_5, .ref a_6, .ref a_7, .ref a_8, .ref a_9, .int v_10, .int v_11, .int v_12]) := by rw [ef_14]; exact up_self
  refine lv_aload_n hx hb dX4_clear_5 rfl (lv_at hl 0 rfl) ?_
  refine lv_iload_n hx hb dX4_clear_6 rfl (lv_at hl 2 rfl) ?_
  refine tk_putP (D := (dC, dI)) (ci := 4) (v := .int p2) (ty := .int) (C := RX4) (T := TX4) (N := 11) hx hb hU inlX4 tyX4 tyX4_ok nmX4 hown hK hP hD hS mo0 hfo_15 rfl 1 (by decide) (hU _ wd_408) (fun _ h9 => h9) rfl (by decide +kernel) rfl rfl (Nat.le_of_ble_eq_true rfl) dX4_clear_7 (fun H locs hP hD hS => ?_)
  obtain ⟨f_17, ef_17⟩ : ∃ y : Nat → va_E, y = va_up f_14 o0 (.inr (4, [.int p1, .int p2, .int v_4, .int v_5, .ref a_6, .ref a_7, .ref a_8, .ref a_9, .int v_10, .int v_11, .int v_12])) := ⟨_, rfl⟩
  have hP : va_P (dC, dI) vwCl (va_pl L f_17) H := by rw [ef_17]; exact hP
  have hD : va_D (fun q => q ∈ L) (va_pl L f_17) := by rw [ef_17]; exact hD
  have hG : GI (okc cI cL cZ cR cG cH L kd) kd L f_17 := by rw [ef_17]; exact hG.set o0 (mk_204 ko0 ⟨p1, p2, v_4, v_5, a_6, a_7, a_8, a_9, v_10, v_11, v_12, rfl, (by constructor <;> omega), (by constructor <;> omega), (by constructor <;> omega), (by constructor <;> omega), ⟨ma_6, ka_6⟩, ⟨ma_7, ka_7⟩, ⟨ma_8, ka_8⟩, ⟨ma_9, ka_9⟩⟩)
  have hfr0 : ∀ b, kd b ≠ 204 → kd b ≠ 205 → kd b ≠ 558 → kd b ≠ 559 → f_17 b = f b := fun b q204 q205 q558 q559 => (congrFun ef_17 b).trans ((up_ne (fun e9 => q204 (by rw [e9]; exact ko0))).trans (hfr0 b q204 q205 q558 q559))
  have hfo_18 : f_17 o0 = .inr (4, [.int p1, .int p2, .int v_4, .int v_5, .ref a_6, .ref a_7, .ref a_8, .ref a_9, .int v_10, .int v_11, .int v_12]) := by rw [ef_17]; exact up_self
  refine lv_aload_n hx hb dX4_clear_10 rfl (lv_at hl 0 rfl) ?_
  refine lv_iconst (v := 0) hx hb dX4_clear_11 (by decide) ?_
  refine tk_putP (D := (dC, dI)) (ci := 4) (v := .int 0) (ty := .int) (C := RX4) (T := TX4) (N := 11) hx hb hU inlX4 tyX4 tyX4_ok nmX4 hown hK hP hD hS mo0 hfo_18 rfl 2 (by decide) (hU _ wd_409) (fun _ h9 => h9) rfl (by decide +kernel) rfl rfl (Nat.le_of_ble_eq_true rfl) dX4_clear_12 (fun H locs hP hD hS => ?_)
  obtain ⟨f_20, ef_20⟩ : ∃ y : Nat → va_E, y = va_up f_17 o0 (.inr (4, [.int p1, .int p2, .int 0, .int v_5, .ref a_6, .ref a_7, .ref a_8, .ref a_9, .int v_10, .int v_11, .int v_12])) := ⟨_, rfl⟩
  have hP : va_P (dC, dI) vwCl (va_pl L f_20) H := by rw [ef_20]; exact hP
  have hD : va_D (fun q => q ∈ L) (va_pl L f_20) := by rw [ef_20]; exact hD
  have hG : GI (okc cI cL cZ cR cG cH L kd) kd L f_20 := by rw [ef_20]; exact hG.set o0 (mk_204 ko0 ⟨p1, p2, 0, v_5, a_6, a_7, a_8, a_9, v_10, v_11, v_12, rfl, (by constructor <;> omega), (by constructor <;> omega), (by decide), (by constructor <;> omega), ⟨ma_6, ka_6⟩, ⟨ma_7, ka_7⟩, ⟨ma_8, ka_8⟩, ⟨ma_9, ka_9⟩⟩)
  have hfr0 : ∀ b, kd b ≠ 204 → kd b ≠ 205 → kd b ≠ 558 → kd b ≠ 559 → f_20 b = f b := fun b q204 q205 q558 q559 => (congrFun ef_20 b).trans ((up_ne (fun e9 => q204 (by rw [e9]; exact ko0))).trans (hfr0 b q204 q205 q558 q559))
  have hfo_21 : f_20 o0 = .inr (4, [.int p1, .int p2, .int 0, .int v_5, .ref a_6, .ref a_7, .ref a_8, .ref a_9, .int v_10, .int v_11, .int v_12]) := by rw [ef_20]; exact up_self
  refine lv_aload_n hx hb dX4_clear_15 rfl (lv_at hl 0 rfl) ?_
  refine lv_iconst (v := 0) hx hb dX4_clear_16 (by decide) ?_
  refine tk_putP (D := (dC, dI)) (ci := 4) (v := .int 0) (ty := .int) (C := RX4) (T := TX4) (N := 11) hx hb hU inlX4 tyX4 tyX4_ok nmX4 hown hK hP hD hS mo0 hfo_21 rfl 3 (by decide) (hU _ wd_410) (fun _ h9 => h9) rfl (by decide +kernel) rfl rfl (Nat.le_of_ble_eq_true rfl) dX4_clear_17 (fun H locs hP hD hS => ?_)
  obtain ⟨f_23, ef_23⟩ : ∃ y : Nat → va_E, y = va_up f_20 o0 (.inr (4, [.int p1, .int p2, .int 0, .int 0, .ref a_6, .ref a_7, .ref a_8, .ref a_9, .int v_10, .int v_11, .int v_12])) := ⟨_, rfl⟩
  have hP : va_P (dC, dI) vwCl (va_pl L f_23) H := by rw [ef_23]; exact hP
  have hD : va_D (fun q => q ∈ L) (va_pl L f_23) := by rw [ef_23]; exact hD
  have hG : GI (okc cI cL cZ cR cG cH L kd) kd L f_23 := by rw [ef_23]; exact hG.set o0 (mk_204 ko0 ⟨p1, p2, 0, 0, a_6, a_7, a_8, a_9, v_10, v_11, v_12, rfl, (by constructor <;> omega), (by constructor <;> omega), (by decide), (by decide), ⟨ma_6, ka_6⟩, ⟨ma_7, ka_7⟩, ⟨ma_8, ka_8⟩, ⟨ma_9, ka_9⟩⟩)
  have hfr0 : ∀ b, kd b ≠ 204 → kd b ≠ 205 → kd b ≠ 558 → kd b ≠ 559 → f_23 b = f b := fun b q204 q205 q558 q559 => (congrFun ef_23 b).trans ((up_ne (fun e9 => q204 (by rw [e9]; exact ko0))).trans (hfr0 b q204 q205 q558 q559))
  have hfo_24 : f_23 o0 = .inr (4, [.int p1, .int p2, .int 0, .int 0, .ref a_6, .ref a_7, .ref a_8, .ref a_9, .int v_10, .int v_11, .int v_12]) := by rw [ef_23]; exact up_self
  refine lv_aload_n hx hb dX4_clear_20 rfl (lv_at hl 0 rfl) ?_
  refine tk_getP (D := (dC, dI)) (ci := 4) (v := .ref a_6) (C := RX4) (T := TX4) (N := 11) hx hb hU inlX4 hown hK hP mo0 hfo_24 rfl 4 (by decide) (hU _ wd_103) (fun _ h9 => h9) rfl dX4_clear_21 ?_
  obtain ⟨a_26, a_27, a_28, v_29, v_30, v_31, hfo_25, ⟨ma_26, ka_26⟩, ⟨ma_27, ka_27⟩, ⟨ma_28, ka_28⟩⟩ := un_205 (hG _ ma_6) ka_6
  have bv_29 : ((-2147483648) ≤ v_29.toInt ∧ v_29.toInt ≤ 2147483647) := ⟨i32_lo _, i32_hi _⟩
  have bv_30 : ((-2147483648) ≤ v_30.toInt ∧ v_30.toInt ≤ 2147483647) := ⟨i32_lo _, i32_hi _⟩
  have bv_31 : ((-2147483648) ≤ v_31.toInt ∧ v_31.toInt ≤ 2147483647) := ⟨i32_lo _, i32_hi _⟩
  refine tk_VvP (As := []) (rest := []) (n := 0) hx hb hml hown hU hN hZ (s_X5_clear_k205 l (dC, dI) cI cL cZ cR cG cH Z kd L f_23 hG a_6 ma_6 ka_6) wd_411 wd_412 wd_413 wd_102 wd_414 (by decide +kernel) ⟨Nat.le_of_ble_eq_true rfl, Nat.le_of_ble_eq_true rfl⟩ hK hP hD hS ma_6 hfo_25 5 rfl rfl rfl hl.1 rfl (Nat.le_of_ble_eq_true rfl) dX4_clear_24 ⟨Nat.le_of_ble_eq_true rfl, Nat.le_of_ble_eq_true rfl⟩ (fun f_33 H locs hw hP hD hS => ?_)
  obtain ⟨hG, hkc_34⟩ := hw
  have hfo_36 : f_33 o0 = .inr (4, [.int p1, .int p2, .int 0, .int 0, .ref a_6, .ref a_7, .ref a_8, .ref a_9, .int v_10, .int v_11, .int v_12]) := by rw [hkc_34 o0 (by rw [ko0]; decide) (by rw [ko0]; decide) (by rw [ko0]; decide)]; exact hfo_24
  have hfr0 : ∀ b, kd b ≠ 204 → kd b ≠ 205 → kd b ≠ 558 → kd b ≠ 559 → f_33 b = f b := fun b q204 q205 q558 q559 => (hkc_34 b q205 q558 q559).trans (hfr0 b q204 q205 q558 q559)
  refine lv_aload_n hx hb dX4_clear_27 rfl (lv_at hl 0 rfl) ?_
  refine tk_getP (D := (dC, dI)) (ci := 4) (v := .ref a_7) (C := RX4) (T := TX4) (N := 11) hx hb hU inlX4 hown hK hP mo0 hfo_36 rfl 5 (by decide) (hU _ wd_104) (fun _ h9 => h9) rfl dX4_clear_28 ?_
  obtain ⟨a_38, a_39, a_40, v_41, v_42, v_43, hfo_37, ⟨ma_38, ka_38⟩, ⟨ma_39, ka_39⟩, ⟨ma_40, ka_40⟩⟩ := un_205 (hG _ ma_7) ka_7
  have bv_41 : ((-2147483648) ≤ v_41.toInt ∧ v_41.toInt ≤ 2147483647) := ⟨i32_lo _, i32_hi _⟩
  have bv_42 : ((-2147483648) ≤ v_42.toInt ∧ v_42.toInt ≤ 2147483647) := ⟨i32_lo _, i32_hi _⟩
  have bv_43 : ((-2147483648) ≤ v_43.toInt ∧ v_43.toInt ≤ 2147483647) := ⟨i32_lo _, i32_hi _⟩
  refine tk_VvP (As := []) (rest := []) (n := 0) hx hb hml hown hU hN hZ (s_X5_clear_k205 l (dC, dI) cI cL cZ cR cG cH Z kd L f_33 hG a_7 ma_7 ka_7) wd_411 wd_412 wd_413 wd_102 wd_414 (by decide +kernel) ⟨Nat.le_of_ble_eq_true rfl, Nat.le_of_ble_eq_true rfl⟩ hK hP hD hS ma_7 hfo_37 5 rfl rfl rfl hl.1 rfl (Nat.le_of_ble_eq_true rfl) dX4_clear_31 ⟨Nat.le_of_ble_eq_true rfl, Nat.le_of_ble_eq_true rfl⟩ (fun f_45 H locs hw hP hD hS => ?_)
  obtain ⟨hG, hkc_46⟩ := hw
  have hfo_48 : f_45 o0 = .inr (4, [.int p1, .int p2, .int 0, .int 0, .ref a_6, .ref a_7, .ref a_8, .ref a_9, .int v_10, .int v_11, .int v_12]) := by rw [hkc_46 o0 (by rw [ko0]; decide) (by rw [ko0]; decide) (by rw [ko0]; decide)]; exact hfo_36
  have hfr0 : ∀ b, kd b ≠ 204 → kd b ≠ 205 → kd b ≠ 558 → kd b ≠ 559 → f_45 b = f b := fun b q204 q205 q558 q559 => (hkc_46 b q205 q558 q559).trans (hfr0 b q204 q205 q558 q559)
  exact W.vret hx hb hr (fun t ht hW => ⟨⟨f_45, rfl, ⟨hG, hfr0, (by intro w1 z1 w3 z3 e1 e3 d1 d3; rw [hfo_1] at e1 e3; rw [hfo_48] at d1 d3; obtain rfl := Option.some.inj e1; obtain rfl := Option.some.inj d1; obtain rfl := Option.some.inj e3; obtain rfl := Option.some.inj d3; (try rw [ti_0]) <;> omega)⟩, by rw [ht]; exact hP, va_K.moved hW.alike hK, pl_in hD⟩, hS.F ht⟩) hS.2.2 dX4_clear_34
set_option maxHeartbeats 8000000 in
set_option maxRecDepth 100000 in
theorem s_X4_copyFrom_k4_k204 (l : Launch) (D : va_G) (cI cL cZ cR cG cH : ClassId) (Z : zT) (kd : Nat → Nat) (L : List Nat) (f : Nat → va_E) (hG : GI (okc cI cL cZ cR cG cH L kd) kd L f) (o0 : Nat) (mo0 : o0 ∈ L) (ko0 : kd o0 = 4) (o1 : Nat) (mo1 : o1 ∈ L) (ko1 : kd o1 = 204) : mPV l D cI cL cZ cR cG cH Z yX4_copyFrom cX4_copyFrom 2 none 2 61 [.ref o0, .ref o1] L f (fun (f9 : Nat → va_E) => GI (okc cI cL cZ cR cG cH L kd) kd L f9 ∧ (∀ b, kd b ≠ 4 → kd b ≠ 5 → kd b ≠ 500 → kd b ≠ 501 → kd b ≠ 502 → kd b ≠ 503 → f9 b = f b)) := by
  obtain ⟨dC, dI⟩ := D
  refine Met.ofW (cc := cX4_copyFrom) (maxL := 2) (ret := none) (by decide) rfl ?_
  intro p e s m args below meth c s₁ B hml hv
  obtain ⟨rfl, hP, hK, hD0, hN, hZ⟩ := hv
  have hx := B.exec
  have hb := B.bytes
  have hr := B.returns
  have hU : ∀ w ∈ wsU, w.before _ s = true := fun w h => atoms_spec (ws := wU yX4_copyFrom cX4_copyFrom 2 none) B.pre w (List.mem_cons_of_mem _ h)
  have hown : s.vm.findClass RX4 = some m.cls := findClass_of_methodNamed B.named
  have hlocks := B.notSynchronized
  have hD := pl_in hD0
  have hS : va_S (fun q => q ∈ L) s.heap s.heap [] := va_S.rf
  have hl := lv_entry ([.ref o0, .ref o1]) (n := 2) (Nat.le_of_ble_eq_true rfl)
  rw [lg_entry_eq]
  generalize (lg_sl ([.ref o0, .ref o1]) ++ List.replicate (2 - (lg_sl ([.ref o0, .ref o1])).length) Slot.unset).toArray = ls at hl ⊢
  have hl : lv_has ls 2 [(0, .ref o0), (1, .ref o1)] := hl
  have hfr0 : ∀ b, kd b ≠ 4 → kd b ≠ 5 → kd b ≠ 500 → kd b ≠ 501 → kd b ≠ 502 → kd b ≠ 503 → f b = f b := fun _ _ _ _ _ _ _ => rfl
  refine lv_aload_n hx hb dX4_copyFrom_0 rfl (lv_at hl 0 rfl) ?_
  refine lv_aload_n hx hb dX4_copyFrom_1 rfl (lv_at hl 1 rfl) ?_
  obtain ⟨v_2, v_3, v_4, v_5, a_6, a_7, a_8, a_9, v_10, v_11, v_12, hfo_1, bv_2, bv_3, bv_4, bv_5, ⟨ma_6, ka_6⟩, ⟨ma_7, ka_7⟩, ⟨ma_8, ka_8⟩, ⟨ma_9, ka_9⟩⟩ := un_204 (hG _ mo1) ko1
  have bv_10 : ((-2147483648) ≤ v_10.toInt ∧ v_10.toInt ≤ 2147483647) := ⟨i32_lo _, i32_hi _⟩
  have bv_11 : ((-2147483648) ≤ v_11.toInt ∧ v_11.toInt ≤ 2147483647) := ⟨i32_lo _, i32_hi _⟩
  have bv_12 : ((-2147483648) ≤ v_12.toInt ∧ v_12.toInt ≤ 2147483647) := ⟨i32_lo _, i32_hi _⟩
  refine tk_getP (D := (dC, dI)) (ci := 4) (v := .int v_2) (C := RX4) (T := TX4) (N := 11) hx hb hU inlX4 hown hK hP mo1 hfo_1 rfl 0 (by decide) (hU _ wd_407) (fun _ h9 => h9) rfl dX4_copyFrom_2 ?_
  obtain ⟨v_14, v_15, v_16, v_17, a_18, a_19, a_20, a_21, v_22, v_23, v_24, hfo_13, bv_14, bv_15, bv_16, bv_17, ⟨ma_18, ka_18⟩, ⟨ma_19, ka_19⟩, ⟨ma_20, ka_20⟩, ⟨ma_21, ka_21⟩⟩ := un_4 (hG _ mo0) ko0
  have bv_22 : ((-2147483648) ≤ v_22.toInt ∧ v_22.toInt ≤ 2147483647) := ⟨i32_lo _, i32_hi _⟩
  have bv_23 : ((-2147483648) ≤ v_23.toInt ∧ v_23.toInt ≤ 2147483647) := ⟨i32_lo _, i32_hi _⟩
  have bv_24 : ((-2147483648) ≤ v_24.toInt ∧ v_24.toInt ≤ 2147483647) := ⟨i32_lo _, i32_hi _⟩
  refine tk_putP (D := (dC, dI)) (ci := 4) (v := .int v_2) (ty := .int) (C := RX4) (T := TX4) (N := 11) hx hb hU inlX4 tyX4 tyX4_ok nmX4 hown hK hP hD hS mo0 hfo_13 rfl 0 (by decide) (hU _ wd_407) (fun _ h9 => h9) rfl (by decide +kernel) rfl rfl (Nat.le_of_ble_eq_true rfl) dX4_copyFrom_5 (fun H locs hP hD hS => ?_)
  obtain ⟨f_26, ef_26⟩ : ∃ y : Nat → va_E, y = va_up f o0 (.inr (4, [.int v_2, .int v_15, .int v_16, .int v_17, .ref a_18, .ref a_19, .ref a_20, .ref a_21, .int v_22, .int v_23, .int v_24])) := ⟨_, rfl⟩
  have hP : va_P (dC, dI) vwCl (va_pl L f_26) H := by rw [ef_26]; exact hP
  have hD : va_D (fun q => q ∈ L) (va_pl L f_26) := by rw [ef_26]; exact hD
  have hG : GI (okc cI cL cZ cR cG cH L kd) kd L f_26 := by rw [ef_26]; exact hG.set o0 (mk_4 ko0 ⟨v_2, v_15, v_16, v_17, a_18, a_19, a_20, a_21, v_22, v_23, v_24, rfl, (by constructor <;> omega), (by constructor <;> omega), (by constructor <;> omega), (by constructor <;> omega), ⟨ma_18, ka_18⟩, ⟨ma_19, ka_19⟩, ⟨ma_20, ka_20⟩, ⟨ma_21, ka_21⟩⟩)
  have hfo_27 : f_26 o1 = .inr (4, [.int v_2, .int v_3, .int v_4, .int v_5, .ref a_6, .ref a_7, .ref a_8, .ref a_9, .int v_10, .int v_11, .int v_12]) := by rw [ef_26, up_ne (kd_ne ko0 ko1 (by decide))]; exact hfo_1
  have hfr0 : ∀ b, kd b ≠ 4 → kd b ≠ 5 → kd b ≠ 500 → kd b ≠ 501 → kd b ≠ 502 → kd b ≠ 503 → f_26 b = f b := fun b q4 q5 q500 q501 q502 q503 => (congrFun ef_26 b).trans ((up_ne (fun e9 => q4 (by rw [e9]; exact ko0))).trans (hfr0 b q4 q5 q500 q501 q502 q503))
  have hfo_28 : f_26 o0 = .inr (4, [.int v_2, .int v_15, .int v_16, .int v_17, .ref a_18, .ref a_19, .ref a_20, .ref a_21, .int v_22, .int v_23, .int v_24]) := by rw [ef_26]; exact up_self
  refine lv_aload_n hx hb dX4_copyFrom_8 rfl (lv_at hl 0 rfl) ?_
  refine lv_aload_n hx hb dX4_copyFrom_9 rfl (lv_at hl 1 rfl) ?_
  refine tk_getP (D := (dC, dI)) (ci := 4) (v := .int v_3) (C := RX4) (T := TX4) (N := 11) hx hb hU inlX4 hown hK hP mo1 hfo_27 rfl 1 (by decide) (hU _ wd_408) (fun _ h9 => h9) rfl dX4_copyFrom_10 ?_
  refine tk_putP (D := (dC, dI)) (ci := 4) (v := .int v_3) (ty := .int) (C := RX4) (T := TX4) (N := 11) hx hb hU inlX4 tyX4 tyX4_ok nmX4 hown hK hP hD hS mo0 hfo_28 rfl 1 (by decide) (hU _ wd_408) (fun _ h9 => h9) rfl (by decide +kernel) rfl rfl (Nat.le_of_ble_eq_true rfl) dX4_copyFrom_13 (fun H locs hP hD hS => ?_)
  obtain ⟨f_30, ef_30⟩ : ∃ y : Nat → va_E, y = va_up f_26 o0 (.inr (4, [.int v_2, .int v_3, .int v_16, .int v_17, .ref a_18, .ref a_19, .ref a_20, .ref a_21, .int v_22, .int v_23, .int v_24])) := ⟨_, rfl⟩
  have hP : va_P (dC, dI) vwCl (va_pl L f_30) H := by rw [ef_30]; exact hP
  have hD : va_D (fun q => q ∈ L) (va_pl L f_30) := by rw [ef_30]; exact hD
  have hG : GI (okc cI cL cZ cR cG cH L kd) kd L f_30 := by rw [ef_30]; exact hG.set o0 (mk_4 ko0 ⟨v_2, v_3, v_16, v_17, a_18, a_19, a_20, a_21, v_22, v_23, v_24, rfl, (by constructor <;> omega), (by constructor <;> omega), (by constructor <;> omega), (by constructor <;> omega), ⟨ma_18, ka_18⟩, ⟨ma_19, ka_19⟩, ⟨ma_20, ka_20⟩, ⟨ma_21, ka_21⟩⟩)
  have hfo_31 : f_30 o1 = .inr (4, [.int v_2, .int v_3, .int v_4, .int v_5, .ref a_6, .ref a_7, .ref a_8, .ref a_9, .int v_10, .int v_11, .int v_12]) := by rw [ef_30, up_ne (kd_ne ko0 ko1 (by decide))]; exact hfo_27
  have hfr0 : ∀ b, kd b ≠ 4 → kd b ≠ 5 → kd b ≠ 500 → kd b ≠ 501 → kd b ≠ 502 → kd b ≠ 503 → f_30 b = f b := fun b q4 q5 q500 q501 q502 q503 => (congrFun ef_30 b).trans ((up_ne (fun e9 => q4 (by rw [e9]; exact ko0))).trans (hfr0 b q4 q5 q500 q501 q502 q503))
  have hfo_32 : f_30 o0 = .inr (4, [.int v_2, .int v_3, .int v_16, .int v_17, .ref a_18, .ref a_19, .ref a_20, .ref a_21, .int v_22, .int v_23, .int v_24]) := by rw [ef_30]; exact up_self
  refine lv_aload_n hx hb dX4_copyFrom_16 rfl (lv_at hl 0 rfl) ?_
  refine lv_aload_n hx hb dX4_copyFrom_17 rfl (lv_at hl 1 rfl) ?_
  refine tk_getP (D := (dC, dI)) (ci := 4) (v := .int v_4) (C := RX4) (T := TX4) (N := 11) hx hb hU inlX4 hown hK hP mo1 hfo_31 rfl 2 (by decide) (hU _ wd_409) (fun _ h9 => h9) rfl dX4_copyFrom_18 ?_
  refine tk_putP (D := (dC, dI)) (ci := 4) (v := .int v_4) (ty := .int) (C := RX4) (T := TX4) (N := 11) hx hb hU inlX4 tyX4 tyX4_ok nmX4 hown hK hP hD hS mo0 hfo_32 rfl 2 (by decide) (hU _ wd_409) (fun _ h9 => h9) rfl (by decide +kernel) rfl rfl (Nat.le_of_ble_eq_true rfl) dX4_copyFrom_21 (fun H locs hP hD hS => ?_)
  obtain ⟨f_34, ef_34⟩ : ∃ y : Nat → va_E, y = va_up f_30 o0 (.inr (4, [.int v_2, .int v_3, .int v_4, .int v_17, .ref a_18, .ref a_19, .ref a_20, .ref a_21, .int v_22, .int v_23, .int v_24])) := ⟨_, rfl⟩
  have hP : va_P (dC, dI) vwCl (va_pl L f_34) H := by rw [ef_34]; exact hP
  have hD : va_D (fun q => q ∈ L) (va_pl L f_34) := by rw [ef_34]; exact hD
  have hG : GI (okc cI cL cZ cR cG cH L kd) kd L f_34 := by rw [ef_34]; exact hG.set o0 (mk_4 ko0 ⟨v_2, v_3, v_4, v_17, a_18, a_19, a_20, a_21, v_22, v_23, v_24, rfl, (by constructor <;> omega), (by constructor <;> omega), (by constructor <;> omega), (by constructor <;> omega), ⟨ma_18, ka_18⟩, ⟨ma_19, ka_19⟩, ⟨ma_20, ka_20⟩, ⟨ma_21, ka_21⟩⟩)
  have hfo_35 : f_34 o1 = .inr (4, [.int v_2, .int v_3, .int v_4, .int v_5, .ref a_6, .ref a_7, .ref a_8, .ref a_9, .int v_10, .int v_11, .int v_12]) := by rw [ef_34, up_ne (kd_ne ko0 ko1 (by decide))]; exact hfo_31
  have hfr0 : ∀ b, kd b ≠ 4 → kd b ≠ 5 → kd b ≠ 500 → kd b ≠ 501 → kd b ≠ 502 → kd b ≠ 503 → f_34 b = f b := fun b q4 q5 q500 q501 q502 q503 => (congrFun ef_34 b).trans ((up_ne (fun e9 => q4 (by rw [e9]; exact ko0))).trans (hfr0 b q4 q5 q500 q501 q502 q503))
  have hfo_36 : f_34 o0 = .inr (4, [.int v_2, .int v_3, .int v_4, .int v_17, .ref a_18, .ref a_19, .ref a_20, .ref a_21, .int v_22, .int v_23, .int v_24]) := by rw [ef_34]; exact up_self
  refine lv_aload_n hx hb dX4_copyFrom_24 rfl (lv_at hl 0 rfl) ?_
  refine lv_aload_n hx hb dX4_copyFrom_25 rfl (lv_at hl 1 rfl) ?_
  refine tk_getP (D := (dC, dI)) (ci := 4) (v := .int v_5) (C := RX4) (T := TX4) (N := 11) hx hb hU inlX4 hown hK hP mo1 hfo_35 rfl 3 (by decide) (hU _ wd_410) (fun _ h9 => h9) rfl dX4_copyFrom_26 ?_
  refine tk_putP (D := (dC, dI)) (ci := 4) (v := .int v_5) (ty := .int) (C := RX4) (T := TX4) (N := 11) hx hb hU inlX4 tyX4 tyX4_ok nmX4 hown hK hP hD hS mo0 hfo_36 rfl 3 (by decide) (hU _ wd_410) (fun _ h9 => h9) rfl (by decide +kernel) rfl rfl (Nat.le_of_ble_eq_true rfl) dX4_copyFrom_29 (fun H locs hP hD hS => ?_)
  obtain ⟨f_38, ef_38⟩ : ∃ y : Nat → va_E, y = va_up f_34 o0 (.inr (4, [.int v_2, .int v_3, .int v_4, .int v_5, .ref a_18, .ref a_19, .ref a_20, .ref a_21, .int v_22, .int v_23, .int v_24])) := ⟨_, rfl⟩
  have hP : va_P (dC, dI) vwCl (va_pl L f_38) H := by rw [ef_38]; exact hP
  have hD : va_D (fun q => q ∈ L) (va_pl L f_38) := by rw [ef_38]; exact hD
  have hG : GI (okc cI cL cZ cR cG cH L kd) kd L f_38 := by rw [ef_38]; exact hG.set o0 (mk_4 ko0 ⟨v_2, v_3, v_4, v_5, a_18, a_19, a_20, a_21, v_22, v_23, v_24, rfl, (by constructor <;> omega), (by constructor <;> omega), (by constructor <;> omega), (by constructor <;> omega), ⟨ma_18, ka_18⟩, ⟨ma_19, ka_19⟩, ⟨ma_20, ka_20⟩, ⟨ma_21, ka_21⟩⟩)
  have hfo_39 : f_38 o1 = .inr (4, [.int v_2, .int v_3, .int v_4, .int v_5, .ref a_6, .ref a_7, .ref a_8, .ref a_9, .int v_10, .int v_11, .int v_12]) := by rw [ef_38, up_ne (kd_ne ko0 ko1 (by decide))]; exact hfo_35
  have hfr0 : ∀ b, kd b ≠ 4 → kd b ≠ 5 → kd b ≠ 500 → kd b ≠ 501 → kd b ≠ 502 → kd b ≠ 503 → f_38 b = f b := fun b q4 q5 q500 q501 q502 q503 => (congrFun ef_38 b).trans ((up_ne (fun e9 => q4 (by rw [e9]; exact ko0))).trans (hfr0 b q4 q5 q500 q501 q502 q503))
  have hfo_40 : f_38 o0 = .inr (4, [.int v_2, .int v_3, .int v_4, .int v_5, .ref a_18, .ref a_19, .ref a_20, .ref a_21, .int v_22, .int v_23, .int v_24]) := by rw [ef_38]; exact up_self
  refine lv_aload_n hx hb dX4_copyFrom_32 rfl (lv_at hl 0 rfl) ?_
  refine tk_getP (D := (dC, dI)) (ci := 4) (v := .ref a_18) (C := RX4) (T := TX4) (N := 11) hx hb hU inlX4 hown hK hP mo0 hfo_40 rfl 4 (by decide) (hU _ wd_103) (fun _ h9 => h9) rfl dX4_copyFrom_33 ?_
  refine lv_aload_n hx hb dX4_copyFrom_36 rfl (lv_at hl 1 rfl) ?_
  refine tk_getP (D := (dC, dI)) (ci := 4) (v := .ref a_6) (C := RX4) (T := TX4) (N := 11) hx hb hU inlX4 hown hK hP mo1 hfo_39 rfl 4 (by decide) (hU _ wd_103) (fun _ h9 => h9) rfl dX4_copyFrom_37 ?_
  obtain ⟨a_42, a_43, a_44, v_45, v_46, v_47, hfo_41, ⟨ma_42, ka_42⟩, ⟨ma_43, ka_43⟩, ⟨ma_44, ka_44⟩⟩ := un_5 (hG _ ma_18) ka_18
  have bv_45 : ((-2147483648) ≤ v_45.toInt ∧ v_45.toInt ≤ 2147483647) := ⟨i32_lo _, i32_hi _⟩
  have bv_46 : ((-2147483648) ≤ v_46.toInt ∧ v_46.toInt ≤ 2147483647) := ⟨i32_lo _, i32_hi _⟩
  have bv_47 : ((-2147483648) ≤ v_47.toInt ∧ v_47.toInt ≤ 2147483647) := ⟨i32_lo _, i32_hi _⟩
  refine tk_VvP (As := [.ref a_6]) (rest := []) (n := 1) hx hb hml hown hU hN hZ (s_X5_copyFrom_k5_k205 l (dC, dI) cI cL cZ cR cG cH Z kd L f_38 hG a_18 ma_18 ka_18 a_6 ma_6 ka_6) wd_540 wd_541 wd_542 wd_102 wd_543 (by decide +kernel) ⟨Nat.le_of_ble_eq_true rfl, Nat.le_of_ble_eq_true rfl⟩ hK hP hD hS ma_18 hfo_41 5 rfl rfl rfl hl.1 rfl (Nat.le_of_ble_eq_true rfl) dX4_copyFrom_40 ⟨Nat.le_of_ble_eq_true rfl, Nat.le_of_ble_eq_true rfl⟩ (fun f_49 H locs hw hP hD hS => ?_)
  obtain ⟨hG, hkc_50⟩ := hw
  have hfo_52 : f_49 o1 = .inr (4, [.int v_2, .int v_3, .int v_4, .int v_5, .ref a_6, .ref a_7, .ref a_8, .ref a_9, .int v_10, .int v_11, .int v_12]) := by rw [hkc_50 o1 (by rw [ko1]; decide) (by rw [ko1]; decide) (by rw [ko1]; decide)]; exact hfo_39
  have hfo_53 : f_49 o0 = .inr (4, [.int v_2, .int v_3, .int v_4, .int v_5, .ref a_18, .ref a_19, .ref a_20, .ref a_21, .int v_22, .int v_23, .int v_24]) := by rw [hkc_50 o0 (by rw [ko0]; decide) (by rw [ko0]; decide) (by rw [ko0]; decide)]; exact hfo_40
  have hfr0 : ∀ b, kd b ≠ 4 → kd b ≠ 5 → kd b ≠ 500 → kd b ≠ 501 → kd b ≠ 502 → kd b ≠ 503 → f_49 b = f b := fun b q4 q5 q500 q501 q502 q503 => (hkc_50 b q5 q500 q501).trans (hfr0 b q4 q5 q500 q501 q502 q503)
  refine lv_aload_n hx hb dX4_copyFrom_43 rfl (lv_at hl 0 rfl) ?_
  refine tk_getP (D := (dC, dI)) (ci := 4) (v := .ref a_19) (C := RX4) (T := TX4) (N := 11) hx hb hU inlX4 hown hK hP mo0 hfo_53 rfl 5 (by decide) (hU _ wd_104) (fun _ h9 => h9) rfl dX4_copyFrom_44 ?_
  refine lv_aload_n hx hb dX4_copyFrom_47 rfl (lv_at hl 1 rfl) ?_
  refine tk_getP (D := (dC, dI)) (ci := 4) (v := .ref a_7) (C := RX4) (T := TX4) (N := 11) hx hb hU inlX4 hown hK hP mo1 hfo_52 rfl 5 (by decide) (hU _ wd_104) (fun _ h9 => h9) rfl dX4_copyFrom_48 ?_
  obtain ⟨a_55, a_56, a_57, v_58, v_59, v_60, hfo_54, ⟨ma_55, ka_55⟩, ⟨ma_56, ka_56⟩, ⟨ma_57, ka_57⟩⟩ := un_5 (hG _ ma_19) ka_19
  have bv_58 : ((-2147483648) ≤ v_58.toInt ∧ v_58.toInt ≤ 2147483647) := ⟨i32_lo _, i32_hi _⟩
  have bv_59 : ((-2147483648) ≤ v_59.toInt ∧ v_59.toInt ≤ 2147483647) := ⟨i32_lo _, i32_hi _⟩
  have bv_60 : ((-2147483648) ≤ v_60.toInt ∧ v_60.toInt ≤ 2147483647) := ⟨i32_lo _, i32_hi _⟩
  refine tk_VvP (As := [.ref a_7]) (rest := []) (n := 1) hx hb hml hown hU hN hZ (s_X5_copyFrom_k5_k205 l (dC, dI) cI cL cZ cR cG cH Z kd L f_49 hG a_19 ma_19 ka_19 a_7 ma_7 ka_7) wd_540 wd_541 wd_542 wd_102 wd_543 (by decide +kernel) ⟨Nat.le_of_ble_eq_true rfl, Nat.le_of_ble_eq_true rfl⟩ hK hP hD hS ma_19 hfo_54 5 rfl rfl rfl hl.1 rfl (Nat.le_of_ble_eq_true rfl) dX4_copyFrom_51 ⟨Nat.le_of_ble_eq_true rfl, Nat.le_of_ble_eq_true rfl⟩ (fun f_62 H locs hw hP hD hS => ?_)
  obtain ⟨hG, hkc_63⟩ := hw
  have hfo_65 : f_62 o1 = .inr (4, [.int v_2, .int v_3, .int v_4, .int v_5, .ref a_6, .ref a_7, .ref a_8, .ref a_9, .int v_10, .int v_11, .int v_12]) := by rw [hkc_63 o1 (by rw [ko1]; decide) (by rw [ko1]; decide) (by rw [ko1]; decide)]; exact hfo_52
  have hfo_66 : f_62 o0 = .inr (4, [.int v_2, .int v_3, .int v_4, .int v_5, .ref a_18, .ref a_19, .ref a_20, .ref a_21, .int v_22, .int v_23, .int v_24]) := by rw [hkc_63 o0 (by rw [ko0]; decide) (by rw [ko0]; decide) (by rw [ko0]; decide)]; exact hfo_53
  have hfr0 : ∀ b, kd b ≠ 4 → kd b ≠ 5 → kd b ≠ 500 → kd b ≠ 501 → kd b ≠ 502 → kd b ≠ 503 → f_62 b = f b := fun b q4 q5 q500 q501 q502 q503 => (hkc_63 b q5 q500 q501).trans (hfr0 b q4 q5 q500 q501 q502 q503)
  refine lv_aload_n hx hb dX4_copyFrom_54 rfl (lv_at hl 1 rfl) ?_
  refine tk_getP (D := (dC, dI)) (ci := 4) (v := .ref a_8) (C := RX4) (T := TX4) (N := 11) hx hb hU inlX4 hown hK hP mo1 hfo_65 rfl 6 (by decide) (hU _ wd_105) (fun _ h9 => h9) rfl dX4_copyFrom_55 ?_
  refine lv_iconst (v := 0) hx hb dX4_copyFrom_58 (by decide) ?_
  refine lv_aload_n hx hb dX4_copyFrom_59 rfl (lv_at hl 0 rfl) ?_
  refine tk_getP (D := (dC, dI)) (ci := 4) (v := .ref a_20) (C := RX4) (T := TX4) (N := 11) hx hb hU inlX4 hown hK hP mo0 hfo_66 rfl 6 (by decide) (hU _ wd_105) (fun _ h9 => h9) rfl dX4_copyFrom_60 ?_
  refine lv_iconst (v := 0) hx hb dX4_copyFrom_63 (by decide) ?_
  refine lv_aload_n hx hb dX4_copyFrom_64 rfl (lv_at hl 0 rfl) ?_
  refine tk_getP (D := (dC, dI)) (ci := 4) (v := .ref a_20) (C := RX4) (T := TX4) (N := 11) hx hb hU inlX4 hown hK hP mo0 hfo_66 rfl 6 (by decide) (hU _ wd_105) (fun _ h9 => h9) rfl dX4_copyFrom_65 ?_
  obtain ⟨g_68, hfo_67, hbg_68⟩ := un_502 (hG _ ma_20) ka_20
  refine tk_alenP (v := 20) hx hb hK hP 0 ma_20 hfo_67 rfl rfl dX4_copyFrom_68 ?_
  obtain ⟨g_70, hfo_69, hbg_70⟩ := un_560 (hG _ ma_8) ka_8
  refine tk_copyP hx hb (by rw [hml]; exact hl.1.symm) hown (hU _ wd_539) (hU _ wd_253) (hU _ wd_254) (hU _ wd_255) hK hP hD hS 0 ma_8 ma_20 hfo_69 hfo_67 rfl (by decide) (by decide) (by decide) (by decide) (by decide) (Nat.le_of_ble_eq_true rfl) (Nat.le_of_ble_eq_true rfl) dX4_copyFrom_69 (fun H locs hP hD hS => ?_)
  obtain ⟨f_72, ef_72⟩ : ∃ y : Nat → va_E, y = va_up f_62 a_20 (.inl (cI, 20, .inl (va_cpy g_70 g_68 (Int32.toNatClampNeg 0) (Int32.toNatClampNeg 0) (Int32.toNatClampNeg 20)))) := ⟨_, rfl⟩
  have hP : va_P (dC, dI) vwCl (va_pl L f_72) H := by rw [ef_72]; exact hP
  have hD : va_D (fun q => q ∈ L) (va_pl L f_72) := by rw [ef_72]; exact hD
  have hG : GI (okc cI cL cZ cR cG cH L kd) kd L f_72 := by rw [ef_72]; exact hG.set a_20 (mk_502 ka_20 ⟨_, rfl, okI_cpy (fun j => by have := hbg_70 j; constructor <;> omega) hbg_68 _ _ _⟩)
  have hfo_73 : f_72 o1 = .inr (4, [.int v_2, .int v_3, .int v_4, .int v_5, .ref a_6, .ref a_7, .ref a_8, .ref a_9, .int v_10, .int v_11, .int v_12]) := by rw [ef_72, up_ne (kd_ne ka_20 ko1 (by decide))]; exact hfo_65
  have hfo_74 : f_72 o0 = .inr (4, [.int v_2, .int v_3, .int v_4, .int v_5, .ref a_18, .ref a_19, .ref a_20, .ref a_21, .int v_22, .int v_23, .int v_24]) := by rw [ef_72, up_ne (kd_ne ka_20 ko0 (by decide))]; exact hfo_66
  have hfo_75 : f_72 a_8 = .inl (cI, 20, .inl g_70) := by rw [ef_72, up_ne (kd_ne ka_20 ka_8 (by decide))]; exact hfo_69
  have hfr0 : ∀ b, kd b ≠ 4 → kd b ≠ 5 → kd b ≠ 500 → kd b ≠ 501 → kd b ≠ 502 → kd b ≠ 503 → f_72 b = f b := fun b q4 q5 q500 q501 q502 q503 => (congrFun ef_72 b).trans ((up_ne (fun e9 => q502 (by rw [e9]; exact ka_20))).trans (hfr0 b q4 q5 q500 q501 q502 q503))
  have hfo_76 : f_72 a_20 = .inl (cI, 20, .inl (va_cpy g_70 g_68 (Int32.toNatClampNeg 0) (Int32.toNatClampNeg 0) (Int32.toNatClampNeg 20))) := by rw [ef_72]; exact up_self
  refine lv_aload_n hx hb dX4_copyFrom_72 rfl (lv_at hl 1 rfl) ?_
  refine tk_getP (D := (dC, dI)) (ci := 4) (v := .ref a_9) (C := RX4) (T := TX4) (N := 11) hx hb hU inlX4 hown hK hP mo1 hfo_73 rfl 7 (by decide) (hU _ wd_106) (fun _ h9 => h9) rfl dX4_copyFrom_73 ?_
  refine lv_iconst (v := 0) hx hb dX4_copyFrom_76 (by decide) ?_
  refine lv_aload_n hx hb dX4_copyFrom_77 rfl (lv_at hl 0 rfl) ?_
  refine tk_getP (D := (dC, dI)) (ci := 4) (v := .ref a_21) (C := RX4) (T := TX4) (N := 11) hx hb hU inlX4 hown hK hP mo0 hfo_74 rfl 7 (by decide) (hU _ wd_106) (fun _ h9 => h9) rfl dX4_copyFrom_78 ?_
  refine lv_iconst (v := 0) hx hb dX4_copyFrom_81 (by decide) ?_
  refine lv_aload_n hx hb dX4_copyFrom_82 rfl (lv_at hl 0 rfl) ?_
  refine tk_getP (D := (dC, dI)) (ci := 4) (v := .ref a_21) (C := RX4) (T := TX4) (N := 11) hx hb hU inlX4 hown hK hP mo0 hfo_74 rfl 7 (by decide) (hU _ wd_106) (fun _ h9 => h9) rfl dX4_copyFrom_83 ?_
  obtain ⟨g_78, hfo_77, hbg_78⟩ := un_503 (hG _ ma_21) ka_21
  refine tk_alenP (v := 8) hx hb hK hP 0 ma_21 hfo_77 rfl rfl dX4_copyFrom_86 ?_
  obtain ⟨g_80, hfo_79, hbg_80⟩ := un_561 (hG _ ma_9) ka_9
  refine tk_copyP hx hb (by rw [hml]; exact hl.1.symm) hown (hU _ wd_539) (hU _ wd_253) (hU _ wd_254) (hU _ wd_255) hK hP hD hS 0 ma_9 ma_21 hfo_79 hfo_77 rfl (by decide) (by decide) (by decide) (by decide) (by decide) (Nat.le_of_ble_eq_true rfl) (Nat.le_of_ble_eq_true rfl) dX4_copyFrom_87 (fun H locs hP hD hS => ?_)
  obtain ⟨f_82, ef_82⟩ : ∃ y : Nat → va_E, y = va_up f_72 a_21 (.inl (cI, 8, .inl (va_cpy g_80 g_78 (Int32.toNatClampNeg 0) (Int32.toNatClampNeg 0) (Int32.toNatClampNeg 8)))) := ⟨_, rfl⟩
  have hP : va_P (dC, dI) vwCl (va_pl L f_82) H := by rw [ef_82]; exact hP
  have hD : va_D (fun q => q ∈ L) (va_pl L f_82) := by rw [ef_82]; exact hD
  have hG : GI (okc cI cL cZ cR cG cH L kd) kd L f_82 := by rw [ef_82]; exact hG.set a_21 (mk_503 ka_21 ⟨_, rfl, okI_cpy (fun j => by have := hbg_80 j; constructor <;> omega) hbg_78 _ _ _⟩)
  have hfo_83 : f_82 o1 = .inr (4, [.int v_2, .int v_3, .int v_4, .int v_5, .ref a_6, .ref a_7, .ref a_8, .ref a_9, .int v_10, .int v_11, .int v_12]) := by rw [ef_82, up_ne (kd_ne ka_21 ko1 (by decide))]; exact hfo_73
  have hfo_84 : f_82 o0 = .inr (4, [.int v_2, .int v_3, .int v_4, .int v_5, .ref a_18, .ref a_19, .ref a_20, .ref a_21, .int v_22, .int v_23, .int v_24]) := by rw [ef_82, up_ne (kd_ne ka_21 ko0 (by decide))]; exact hfo_74
  have hfo_85 : f_82 a_8 = .inl (cI, 20, .inl g_70) := by rw [ef_82, up_ne (kd_ne ka_21 ka_8 (by decide))]; exact hfo_75
  have hfo_86 : f_82 a_9 = .inl (cI, 8, .inl g_80) := by rw [ef_82, up_ne (kd_ne ka_21 ka_9 (by decide))]; exact hfo_79
  have hfr0 : ∀ b, kd b ≠ 4 → kd b ≠ 5 → kd b ≠ 500 → kd b ≠ 501 → kd b ≠ 502 → kd b ≠ 503 → f_82 b = f b := fun b q4 q5 q500 q501 q502 q503 => (congrFun ef_82 b).trans ((up_ne (fun e9 => q503 (by rw [e9]; exact ka_21))).trans (hfr0 b q4 q5 q500 q501 q502 q503))
  have hfo_87 : f_82 a_21 = .inl (cI, 8, .inl (va_cpy g_80 g_78 (Int32.toNatClampNeg 0) (Int32.toNatClampNeg 0) (Int32.toNatClampNeg 8))) := by rw [ef_82]; exact up_self
  refine lv_aload_n hx hb dX4_copyFrom_90 rfl (lv_at hl 0 rfl) ?_
  refine lv_aload_n hx hb dX4_copyFrom_91 rfl (lv_at hl 1 rfl) ?_
  refine tk_getP (D := (dC, dI)) (ci := 4) (v := .int v_10) (C := RX4) (T := TX4) (N := 11) hx hb hU inlX4 hown hK hP mo1 hfo_83 rfl 8 (by decide) (hU _ wd_493) (fun _ h9 => h9) rfl dX4_copyFrom_92 ?_
  refine tk_putP (D := (dC, dI)) (ci := 4) (v := .int v_10) (ty := .int) (C := RX4) (T := TX4) (N := 11) hx hb hU inlX4 tyX4 tyX4_ok nmX4 hown hK hP hD hS mo0 hfo_84 rfl 8 (by decide) (hU _ wd_493) (fun _ h9 => h9) rfl (by decide +kernel) rfl rfl (Nat.le_of_ble_eq_true rfl) dX4_copyFrom_95 (fun H locs hP hD hS => ?_)
  obtain ⟨f_89, ef_89⟩ : ∃ y : Nat → va_E, y = va_up f_82 o0 (.inr (4, [.int v_2, .int v_3, .int v_4, .int v_5, .ref a_18, .ref a_19, .ref a_20, .ref a_21, .int v_10, .int v_23, .int v_24])) := ⟨_, rfl⟩
  have hP : va_P (dC, dI) vwCl (va_pl L f_89) H := by rw [ef_89]; exact hP
  have hD : va_D (fun q => q ∈ L) (va_pl L f_89) := by rw [ef_89]; exact hD
  have hG : GI (okc cI cL cZ cR cG cH L kd) kd L f_89 := by rw [ef_89]; exact hG.set o0 (mk_4 ko0 ⟨v_2, v_3, v_4, v_5, a_18, a_19, a_20, a_21, v_10, v_23, v_24, rfl, (by constructor <;> omega), (by constructor <;> omega), (by constructor <;> omega), (by constructor <;> omega), ⟨ma_18, ka_18⟩, ⟨ma_19, ka_19⟩, ⟨ma_20, ka_20⟩, ⟨ma_21, ka_21⟩⟩)
  have hfo_90 : f_89 o1 = .inr (4, [.int v_2, .int v_3, .int v_4, .int v_5, .ref a_6, .ref a_7, .ref a_8, .ref a_9, .int v_10, .int v_11, .int v_12]) := by rw [ef_89, up_ne (kd_ne ko0 ko1 (by decide))]; exact hfo_83
  have hfo_91 : f_89 a_8 = .inl (cI, 20, .inl g_70) := by rw [ef_89, up_ne (kd_ne ko0 ka_8 (by decide))]; exact hfo_85
  have hfo_92 : f_89 a_9 = .inl (cI, 8, .inl g_80) := by rw [ef_89, up_ne (kd_ne ko0 ka_9 (by decide))]; exact hfo_86
  have hfr0 : ∀ b, kd b ≠ 4 → kd b ≠ 5 → kd b ≠ 500 → kd b ≠ 501 → kd b ≠ 502 → kd b ≠ 503 → f_89 b = f b := fun b q4 q5 q500 q501 q502 q503 => (congrFun ef_89 b).trans ((up_ne (fun e9 => q4 (by rw [e9]; exact ko0))).trans (hfr0 b q4 q5 q500 q501 q502 q503))
  have hfo_93 : f_89 o0 = .inr (4, [.int v_2, .int v_3, .int v_4, .int v_5, .ref a_18, .ref a_19, .ref a_20, .ref a_21, .int v_10, .int v_23, .int v_24]) := by rw [ef_89]; exact up_self
  refine lv_aload_n hx hb dX4_copyFrom_98 rfl (lv_at hl 0 rfl) ?_
  refine lv_aload_n hx hb dX4_copyFrom_99 rfl (lv_at hl 1 rfl) ?_
  refine tk_getP (D := (dC, dI)) (ci := 4) (v := .int v_11) (C := RX4) (T := TX4) (N := 11) hx hb hU inlX4 hown hK hP mo1 hfo_90 rfl 9 (by decide) (hU _ wd_494) (fun _ h9 => h9) rfl dX4_copyFrom_100 ?_
  refine tk_putP (D := (dC, dI)) (ci := 4) (v := .int v_11) (ty := .int) (C := RX4) (T := TX4) (N := 11) hx hb hU inlX4 tyX4 tyX4_ok nmX4 hown hK hP hD hS mo0 hfo_93 rfl 9 (by decide) (hU _ wd_494) (fun _ h9 => h9) rfl (by decide +kernel) rfl rfl (Nat.le_of_ble_eq_true rfl) dX4_copyFrom_103 (fun H locs hP hD hS => ?_)
  obtain ⟨f_95, ef_95⟩ : ∃ y : Nat → va_E, y = va_up f_89 o0 (.inr (4, [.int v_2, .int v_3, .int v_4, .int v_5, .ref a_18, .ref a_19, .ref a_20, .ref a_21, .int v_10, .int v_11, .int v_24])) := ⟨_, rfl⟩
  have hP : va_P (dC, dI) vwCl (va_pl L f_95) H := by rw [ef_95]; exact hP
  have hD : va_D (fun q => q ∈ L) (va_pl L f_95) := by rw [ef_95]; exact hD
  have hG : GI (okc cI cL cZ cR cG cH L kd) kd L f_95 := by rw [ef_95]; exact hG.set o0 (mk_4 ko0 ⟨v_2, v_3, v_4, v_5, a_18, a_19, a_20, a_21, v_10, v_11, v_24, rfl, (by constructor <;> omega), (by constructor <;> omega), (by constructor <;> omega), (by constructor <;> omega), ⟨ma_18, ka_18⟩, ⟨ma_19, ka_19⟩, ⟨ma_20, ka_20⟩, ⟨ma_21, ka_21⟩⟩)
  have hfo_96 : f_95 o1 = .inr (4, [.int v_2, .int v_3, .int v_4, .int v_5, .ref a_6, .ref a_7, .ref a_8, .ref a_9, .int v_10, .int v_11, .int v_12]) := by rw [ef_95, up_ne (kd_ne ko0 ko1 (by decide))]; exact hfo_90
  have hfo_97 : f_95 a_8 = .inl (cI, 20, .inl g_70) := by rw [ef_95, up_ne (kd_ne ko0 ka_8 (by decide))]; exact hfo_91
  have hfo_98 : f_95 a_9 = .inl (cI, 8, .inl g_80) := by rw [ef_95, up_ne (kd_ne ko0 ka_9 (by decide))]; exact hfo_92
  have hfr0 : ∀ b, kd b ≠ 4 → kd b ≠ 5 → kd b ≠ 500 → kd b ≠ 501 → kd b ≠ 502 → kd b ≠ 503 → f_95 b = f b := fun b q4 q5 q500 q501 q502 q503 => (congrFun ef_95 b).trans ((up_ne (fun e9 => q4 (by rw [e9]; exact ko0))).trans (hfr0 b q4 q5 q500 q501 q502 q503))
  have hfo_99 : f_95 o0 = .inr (4, [.int v_2, .int v_3, .int v_4, .int v_5, .ref a_18, .ref a_19, .ref a_20, .ref a_21, .int v_10, .int v_11, .int v_24]) := by rw [ef_95]; exact up_self
  refine lv_aload_n hx hb dX4_copyFrom_106 rfl (lv_at hl 0 rfl) ?_
  refine lv_aload_n hx hb dX4_copyFrom_107 rfl (lv_at hl 1 rfl) ?_
  refine tk_getP (D := (dC, dI)) (ci := 4) (v := .int v_12) (C := RX4) (T := TX4) (N := 11) hx hb hU inlX4 hown hK hP mo1 hfo_96 rfl 10 (by decide) (hU _ wd_495) (fun _ h9 => h9) rfl dX4_copyFrom_108 ?_
  refine tk_putP (D := (dC, dI)) (ci := 4) (v := .int v_12) (ty := .int) (C := RX4) (T := TX4) (N := 11) hx hb hU inlX4 tyX4 tyX4_ok nmX4 hown hK hP hD hS mo0 hfo_99 rfl 10 (by decide) (hU _ wd_495) (fun _ h9 => h9) rfl (by decide +kernel) rfl rfl (Nat.le_of_ble_eq_true rfl) dX4_copyFrom_111 (fun H locs hP hD hS => ?_)
  obtain ⟨f_101, ef_101⟩ : ∃ y : Nat → va_E, y = va_up f_95 o0 (.inr (4, [.int v_2, .int v_3, .int v_4, .int v_5, .ref a_18, .ref a_19, .ref a_20, .ref a_21, .int v_10, .int v_11, .int v_12])) := ⟨_, rfl⟩
  have hP : va_P (dC, dI) vwCl (va_pl L f_101) H := by rw [ef_101]; exact hP
  have hD : va_D (fun q => q ∈ L) (va_pl L f_101) := by rw [ef_101]; exact hD
  have hG : GI (okc cI cL cZ cR cG cH L kd) kd L f_101 := by rw [ef_101]; exact hG.set o0 (mk_4 ko0 ⟨v_2, v_3, v_4, v_5, a_18, a_19, a_20, a_21, v_10, v_11, v_12, rfl, (by constructor <;> omega), (by constructor <;> omega), (by constructor <;> omega), (by constructor <;> omega), ⟨ma_18, ka_18⟩, ⟨ma_19, ka_19⟩, ⟨ma_20, ka_20⟩, ⟨ma_21, ka_21⟩⟩)
  have hfo_102 : f_101 o1 = .inr (4, [.int v_2, .int v_3, .int v_4, .int v_5, .ref a_6, .ref a_7, .ref a_8, .ref a_9, .int v_10, .int v_11, .int v_12]) := by rw [ef_101, up_ne (kd_ne ko0 ko1 (by decide))]; exact hfo_96
  have hfo_103 : f_101 a_8 = .inl (cI, 20, .inl g_70) := by rw [ef_101, up_ne (kd_ne ko0 ka_8 (by decide))]; exact hfo_97
  have hfo_104 : f_101 a_9 = .inl (cI, 8, .inl g_80) := by rw [ef_101, up_ne (kd_ne ko0 ka_9 (by decide))]; exact hfo_98
  have hfr0 : ∀ b, kd b ≠ 4 → kd b ≠ 5 → kd b ≠ 500 → kd b ≠ 501 → kd b ≠ 502 → kd b ≠ 503 → f_101 b = f b := fun b q4 q5 q500 q501 q502 q503 => (congrFun ef_101 b).trans ((up_ne (fun e9 => q4 (by rw [e9]; exact ko0))).trans (hfr0 b q4 q5 q500 q501 q502 q503))
  have hfo_105 : f_101 o0 = .inr (4, [.int v_2, .int v_3, .int v_4, .int v_5, .ref a_18, .ref a_19, .ref a_20, .ref a_21, .int v_10, .int v_11, .int v_12]) := by rw [ef_101]; exact up_self
  exact W.vret hx hb hr (fun t ht hW => ⟨⟨f_101, rfl, ⟨hG, hfr0⟩, by rw [ht]; exact hP, va_K.moved hW.alike hK, pl_in hD⟩, hS.F ht⟩) hS.2.2 dX4_copyFrom_114
