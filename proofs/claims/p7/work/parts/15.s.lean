set_option maxHeartbeats 8000000 in
set_option maxRecDepth 100000 in
theorem s_X10_clear_k10 (l : Launch) (D : va_G) (cI cL cZ cR : ClassId) (kd : Nat → Nat) (L : List Nat) (f : Nat → va_E) (hG : GI (okc cI cL cZ cR L kd) kd L f) (o0 : Nat) (mo0 : o0 ∈ L) (ko0 : kd o0 = 10) : mPV l D cI cL cZ cR yX10_clear cX10_clear 1 none 0 0 [.ref o0] L f (fun (f9 : Nat → va_E) => GI (okc cI cL cZ cR L kd) kd L f9) := by
  obtain ⟨dC, dI⟩ := D
  refine Met.ofW (cc := cX10_clear) (maxL := 1) (ret := none) (by decide) rfl ?_
  intro p e s m args below meth c s₁ B hml hv
  obtain ⟨rfl, hP, hK, hD0, hN⟩ := hv
  have hx := B.exec
  have hb := B.bytes
  have hr := B.returns
  have hU : ∀ w ∈ wsU, w.before _ s = true := fun w h => atoms_spec (ws := wU yX10_clear cX10_clear 1 none) B.pre w (List.mem_cons_of_mem _ h)
  have hown : s.vm.findClass RX10 = some m.cls := findClass_of_methodNamed B.named
  have hlocks := B.notSynchronized
  have hD := pl_in hD0
  have hS : va_S (fun q => q ∈ L) s.heap s.heap [] := va_S.rf
  have hl := lv_entry ([.ref o0]) (n := 1) (Nat.le_of_ble_eq_true rfl)
  rw [lg_entry_eq]
  generalize (lg_sl ([.ref o0]) ++ List.replicate (1 - (lg_sl ([.ref o0])).length) Slot.unset).toArray = ls at hl ⊢
  have hl : lv_has ls 1 [(0, .ref o0)] := hl
  refine lv_aload_n hx hb dX10_clear_0 rfl (lv_at hl 0 rfl) ?_
  refine lv_iconst (v := 0) hx hb dX10_clear_1 (by decide) ?_
  obtain ⟨a_2, v_3, v_4, hfo_1, ⟨ma_2, ka_2⟩, bv_3, bv_4⟩ := un_10 (hG _ mo0) ko0
  refine tk_putP (D := (dC, dI)) (ci := 10) (v := .int 0) (ty := .int) (C := RX10) (T := TX10) (N := 3) hx hb hU inlX10 tyX10 tyX10_ok nmX10 hown hK hP hD hS mo0 hfo_1 rfl 1 (by decide) (hU _ wd_560) (fun _ h9 => h9) rfl (by decide +kernel) rfl rfl (Nat.le_of_ble_eq_true rfl) dX10_clear_2 (fun H locs hP hD hS => ?_)
  obtain ⟨f_5, ef_5⟩ : ∃ y : Nat → va_E, y = va_up f o0 (.inr (10, [.ref a_2, .int 0, .int v_4])) := ⟨_, rfl⟩
  have hP : va_P (dC, dI) vwCl (va_pl L f_5) H := by rw [ef_5]; exact hP
  have hD : va_D (fun q => q ∈ L) (va_pl L f_5) := by rw [ef_5]; exact hD
  have hG : GI (okc cI cL cZ cR L kd) kd L f_5 := by rw [ef_5]; exact hG.set o0 (mk_10 ko0 ⟨a_2, 0, v_4, rfl, ⟨ma_2, ka_2⟩, (by decide), (by constructor <;> omega)⟩)
  have hfo_6 : f_5 o0 = .inr (10, [.ref a_2, .int 0, .int v_4]) := by rw [ef_5]; exact up_self
  refine lv_aload_n hx hb dX10_clear_5 rfl (lv_at hl 0 rfl) ?_
  refine lv_iconst (v := 0) hx hb dX10_clear_6 (by decide) ?_
  refine tk_putP (D := (dC, dI)) (ci := 10) (v := .int 0) (ty := .boolean) (C := RX10) (T := TX10) (N := 3) hx hb hU inlX10 tyX10 tyX10_ok nmX10 hown hK hP hD hS mo0 hfo_6 rfl 2 (by decide) (hU _ wd_561) (fun _ h9 => h9) rfl (by decide +kernel) rfl rfl (Nat.le_of_ble_eq_true rfl) dX10_clear_7 (fun H locs hP hD hS => ?_)
  obtain ⟨f_7, ef_7⟩ : ∃ y : Nat → va_E, y = va_up f_5 o0 (.inr (10, [.ref a_2, .int 0, .int 0])) := ⟨_, rfl⟩
  have hP : va_P (dC, dI) vwCl (va_pl L f_7) H := by rw [ef_7]; exact hP
  have hD : va_D (fun q => q ∈ L) (va_pl L f_7) := by rw [ef_7]; exact hD
  have hG : GI (okc cI cL cZ cR L kd) kd L f_7 := by rw [ef_7]; exact hG.set o0 (mk_10 ko0 ⟨a_2, 0, 0, rfl, ⟨ma_2, ka_2⟩, (by decide), (by decide)⟩)
  have hfo_8 : f_7 o0 = .inr (10, [.ref a_2, .int 0, .int 0]) := by rw [ef_7]; exact up_self
  exact W.vret hx hb hr (fun t ht hW => ⟨⟨f_7, rfl, hG, by rw [ht]; exact hP, va_K.moved hW.alike hK, pl_in hD⟩, hS.F ht⟩) hS.2.2 dX10_clear_10
set_option maxHeartbeats 8000000 in
set_option maxRecDepth 100000 in
theorem s_X7_signOf_k7 (l : Launch) (D : va_G) (cI cL cZ cR : ClassId) (kd : Nat → Nat) (L : List Nat) (f : Nat → va_E) (hG : GI (okc cI cL cZ cR L kd) kd L f) (o0 : Nat) (mo0 : o0 ∈ L) (ko0 : kd o0 = 7) (p1 : Int32) : mPI l D cI cL cZ cR yX7_signOf cX7_signOf 2 (some .int) 0 0 [.ref o0, .int p1] L f (fun (r : Int32) (f9 : Nat → va_E) => GI (okc cI cL cZ cR L kd) kd L f9 ∧ (0 ≤ r.toInt ∧ r.toInt ≤ 8)) := by
  obtain ⟨dC, dI⟩ := D
  refine Met.ofW (cc := cX7_signOf) (maxL := 2) (ret := (some .int)) (by decide) rfl ?_
  intro p e s m args below meth c s₁ B hml hv
  obtain ⟨rfl, hP, hK, hD0, hN⟩ := hv
  have hx := B.exec
  have hb := B.bytes
  have hr := B.returns
  have hU : ∀ w ∈ wsU, w.before _ s = true := fun w h => atoms_spec (ws := wU yX7_signOf cX7_signOf 2 (some .int)) B.pre w (List.mem_cons_of_mem _ h)
  have hown : s.vm.findClass RX7 = some m.cls := findClass_of_methodNamed B.named
  have hlocks := B.notSynchronized
  have hD := pl_in hD0
  have hS : va_S (fun q => q ∈ L) s.heap s.heap [] := va_S.rf
  have hl := lv_entry ([.ref o0, .int p1]) (n := 2) (Nat.le_of_ble_eq_true rfl)
  rw [lg_entry_eq]
  generalize (lg_sl ([.ref o0, .int p1]) ++ List.replicate (2 - (lg_sl ([.ref o0, .int p1])).length) Slot.unset).toArray = ls at hl ⊢
  have hl : lv_has ls 2 [(0, .ref o0), (1, .int p1)] := hl
  have bp1 : ((-2147483648) ≤ p1.toInt ∧ p1.toInt ≤ 2147483647) := ⟨i32_lo _, i32_hi _⟩
  refine lv_iload_n hx hb dX7_signOf_0 rfl (lv_at hl 1 rfl) ?_
  refine lv_bipush (v := 97) hx hb dX7_signOf_1 (by decide) ?_
  refine lv_icmp_lt (tgt := 12) hx hb dX7_signOf_3 (by decide) (fun c_1 => ?_) (fun c_1 => ?_)
  · skip
    rw [Int32.lt_iff_toInt_lt, ti_97] at c_1
    refine lv_iconst (v := 0) hx hb dX7_signOf_12 (by decide) ?_
    refine lv_goto (tgt := 25) hx hb dX7_signOf_13 (by decide) ?_
    exact W.iret (v := 0) hx hb hr (fun t ht hW => ⟨⟨0, f, rfl, ⟨hG, (by decide)⟩, by rw [ht]; exact hP, va_K.moved hW.alike hK, pl_in hD⟩, hS.F ht⟩) hS.2.2 dX7_signOf_25
  · skip
    rw [Int32.lt_iff_toInt_lt, ti_97] at c_1
    refine lv_iload_n hx hb dX7_signOf_6 rfl (lv_at hl 1 rfl) ?_
    refine lv_bipush (v := 122) hx hb dX7_signOf_7 (by decide) ?_
    refine lv_icmp_le (tgt := 16) hx hb dX7_signOf_9 (by decide) (fun c_2 => ?_) (fun c_2 => ?_)
    · skip
      rw [Int32.le_iff_toInt_le, ti_122] at c_2
      refine lv_aload_n hx hb dX7_signOf_16 rfl (lv_at hl 0 rfl) ?_
      obtain ⟨a_4, v_5, a_6, a_7, a_8, a_9, v_10, a_11, a_12, a_13, a_14, a_15, v_16, a_17, a_18, a_19, hfo_3, ⟨ma_4, ka_4⟩, bv_5, ⟨ma_6, ka_6⟩, ⟨ma_7, ka_7⟩, ⟨ma_8, ka_8⟩, ⟨ma_9, ka_9⟩, bv_10, ⟨ma_11, ka_11⟩, ⟨ma_12, ka_12⟩, ⟨ma_13, ka_13⟩, ⟨ma_14, ka_14⟩, ⟨ma_15, ka_15⟩, bv_16, ⟨ma_17, ka_17⟩, ⟨ma_18, ka_18⟩, ⟨ma_19, ka_19⟩⟩ := un_7 (hG _ mo0) ko0
      refine tk_getP (D := (dC, dI)) (ci := 7) (v := .ref a_4) (C := RX7) (T := TX7) (N := 16) hx hb hU inlX7 hown hK hP mo0 hfo_3 rfl 0 (by decide) (hU _ wd_72) (fun _ h9 => h9) rfl dX7_signOf_17 ?_
      refine lv_iload_n hx hb dX7_signOf_20 rfl (lv_at hl 1 rfl) ?_
      refine lv_bipush (v := 97) hx hb dX7_signOf_21 (by decide) ?_
      refine lv_isub hx hb dX7_signOf_23 ?_
      refine lv_topi (fun x_20 ex_20 => ?_)
      have hx_20 : x_20.toInt = p1.toInt - 97 := by rw [ex_20, sb_I (by rw [ti_97]; omega) (by rw [ti_97]; omega), ti_97]
      have bx_20 : (0 ≤ x_20.toInt ∧ x_20.toInt ≤ 25) := by constructor <;> omega
      obtain ⟨g_22, hfo_21, hbg_22⟩ := un_28 (hG _ ma_4) ka_4
      refine tk_ildP hx hb hK hP 0 ma_4 hfo_21 rfl (vp_in_iff.mpr (by constructor <;> omega)) dX7_signOf_24 ?_
      refine lv_topi (fun x_23 ex_23 => ?_)
      have bx_23 : (0 ≤ x_23.toInt ∧ x_23.toInt ≤ 8) := by rw [ex_23]; exact hbg_22 _
      exact W.iret (v := x_23) hx hb hr (fun t ht hW => ⟨⟨x_23, f, rfl, ⟨hG, (by constructor <;> omega)⟩, by rw [ht]; exact hP, va_K.moved hW.alike hK, pl_in hD⟩, hS.F ht⟩) hS.2.2 dX7_signOf_25
    · skip
      rw [Int32.le_iff_toInt_le, ti_122] at c_2
      refine lv_iconst (v := 0) hx hb dX7_signOf_12 (by decide) ?_
      refine lv_goto (tgt := 25) hx hb dX7_signOf_13 (by decide) ?_
      exact W.iret (v := 0) hx hb hr (fun t ht hW => ⟨⟨0, f, rfl, ⟨hG, (by decide)⟩, by rw [ht]; exact hP, va_K.moved hW.alike hK, pl_in hD⟩, hS.F ht⟩) hS.2.2 dX7_signOf_25
set_option maxHeartbeats 8000000 in
set_option maxRecDepth 100000 in
theorem s_X7_pairOf_k7 (l : Launch) (D : va_G) (cI cL cZ cR : ClassId) (kd : Nat → Nat) (L : List Nat) (f : Nat → va_E) (hG : GI (okc cI cL cZ cR L kd) kd L f) (o0 : Nat) (mo0 : o0 ∈ L) (ko0 : kd o0 = 7) (p1 : Int32) (p2 : Int32) : mPI l D cI cL cZ cR yX7_pairOf cX7_pairOf 3 (some .int) 0 0 [.ref o0, .int p1, .int p2] L f (fun (r : Int32) (f9 : Nat → va_E) => GI (okc cI cL cZ cR L kd) kd L f9 ∧ ((-1) ≤ r.toInt ∧ r.toInt ≤ 19)) := by
  obtain ⟨dC, dI⟩ := D
  refine Met.ofW (cc := cX7_pairOf) (maxL := 3) (ret := (some .int)) (by decide) rfl ?_
  intro p e s m args below meth c s₁ B hml hv
  obtain ⟨rfl, hP, hK, hD0, hN⟩ := hv
  have hx := B.exec
  have hb := B.bytes
  have hr := B.returns
  have hU : ∀ w ∈ wsU, w.before _ s = true := fun w h => atoms_spec (ws := wU yX7_pairOf cX7_pairOf 3 (some .int)) B.pre w (List.mem_cons_of_mem _ h)
  have hown : s.vm.findClass RX7 = some m.cls := findClass_of_methodNamed B.named
  have hlocks := B.notSynchronized
  have hD := pl_in hD0
  have hS : va_S (fun q => q ∈ L) s.heap s.heap [] := va_S.rf
  have hl := lv_entry ([.ref o0, .int p1, .int p2]) (n := 3) (Nat.le_of_ble_eq_true rfl)
  rw [lg_entry_eq]
  generalize (lg_sl ([.ref o0, .int p1, .int p2]) ++ List.replicate (3 - (lg_sl ([.ref o0, .int p1, .int p2])).length) Slot.unset).toArray = ls at hl ⊢
  have hl : lv_has ls 3 [(0, .ref o0), (1, .int p1), (2, .int p2)] := hl
  have bp1 : ((-2147483648) ≤ p1.toInt ∧ p1.toInt ≤ 2147483647) := ⟨i32_lo _, i32_hi _⟩
  have bp2 : ((-2147483648) ≤ p2.toInt ∧ p2.toInt ≤ 2147483647) := ⟨i32_lo _, i32_hi _⟩
  refine lv_iload_n hx hb dX7_pairOf_0 rfl (lv_at hl 1 rfl) ?_
  refine lv_if_lt (tgt := 24) hx hb dX7_pairOf_1 (by decide) (fun c_1 => ?_) (fun c_1 => ?_)
  · skip
    rw [Int32.lt_iff_toInt_lt, ti_0] at c_1
    refine lv_iconst (v := (-1)) hx hb dX7_pairOf_24 (by decide) ?_
    exact W.iret (v := (-1)) hx hb hr (fun t ht hW => ⟨⟨(-1), f, rfl, ⟨hG, (by decide)⟩, by rw [ht]; exact hP, va_K.moved hW.alike hK, pl_in hD⟩, hS.F ht⟩) hS.2.2 dX7_pairOf_25
  · skip
    rw [Int32.lt_iff_toInt_lt, ti_0] at c_1
    refine lv_iload_n hx hb dX7_pairOf_4 rfl (lv_at hl 1 rfl) ?_
    refine lv_aload_n hx hb dX7_pairOf_5 rfl (lv_at hl 0 rfl) ?_
    obtain ⟨a_3, v_4, a_5, a_6, a_7, a_8, v_9, a_10, a_11, a_12, a_13, a_14, v_15, a_16, a_17, a_18, hfo_2, ⟨ma_3, ka_3⟩, bv_4, ⟨ma_5, ka_5⟩, ⟨ma_6, ka_6⟩, ⟨ma_7, ka_7⟩, ⟨ma_8, ka_8⟩, bv_9, ⟨ma_10, ka_10⟩, ⟨ma_11, ka_11⟩, ⟨ma_12, ka_12⟩, ⟨ma_13, ka_13⟩, ⟨ma_14, ka_14⟩, bv_15, ⟨ma_16, ka_16⟩, ⟨ma_17, ka_17⟩, ⟨ma_18, ka_18⟩⟩ := un_7 (hG _ mo0) ko0
    refine tk_getP (D := (dC, dI)) (ci := 7) (v := .int v_4) (C := RX7) (T := TX7) (N := 16) hx hb hU inlX7 hown hK hP mo0 hfo_2 rfl 1 (by decide) (hU _ wd_262) (fun _ h9 => h9) rfl dX7_pairOf_6 ?_
    refine lv_icmp_gt (tgt := 24) hx hb dX7_pairOf_9 (by decide) (fun c_19 => ?_) (fun c_19 => ?_)
    · skip
      rw [Int32.lt_iff_toInt_lt] at c_19
      refine lv_iconst (v := (-1)) hx hb dX7_pairOf_24 (by decide) ?_
      exact W.iret (v := (-1)) hx hb hr (fun t ht hW => ⟨⟨(-1), f, rfl, ⟨hG, (by decide)⟩, by rw [ht]; exact hP, va_K.moved hW.alike hK, pl_in hD⟩, hS.F ht⟩) hS.2.2 dX7_pairOf_25
    · skip
      rw [Int32.lt_iff_toInt_lt] at c_19
      refine lv_iload_n hx hb dX7_pairOf_12 rfl (lv_at hl 2 rfl) ?_
      refine lv_if_lt (tgt := 24) hx hb dX7_pairOf_13 (by decide) (fun c_20 => ?_) (fun c_20 => ?_)
      · skip
        rw [Int32.lt_iff_toInt_lt, ti_0] at c_20
        refine lv_iconst (v := (-1)) hx hb dX7_pairOf_24 (by decide) ?_
        exact W.iret (v := (-1)) hx hb hr (fun t ht hW => ⟨⟨(-1), f, rfl, ⟨hG, (by decide)⟩, by rw [ht]; exact hP, va_K.moved hW.alike hK, pl_in hD⟩, hS.F ht⟩) hS.2.2 dX7_pairOf_25
      · skip
        rw [Int32.lt_iff_toInt_lt, ti_0] at c_20
        refine lv_iload_n hx hb dX7_pairOf_16 rfl (lv_at hl 2 rfl) ?_
        refine lv_aload_n hx hb dX7_pairOf_17 rfl (lv_at hl 0 rfl) ?_
        refine tk_getP (D := (dC, dI)) (ci := 7) (v := .int v_4) (C := RX7) (T := TX7) (N := 16) hx hb hU inlX7 hown hK hP mo0 hfo_2 rfl 1 (by decide) (hU _ wd_262) (fun _ h9 => h9) rfl dX7_pairOf_18 ?_
        refine lv_icmp_le (tgt := 26) hx hb dX7_pairOf_21 (by decide) (fun c_21 => ?_) (fun c_21 => ?_)
        · skip
          rw [Int32.le_iff_toInt_le] at c_21
          refine lv_aload_n hx hb dX7_pairOf_26 rfl (lv_at hl 0 rfl) ?_
          refine tk_getP (D := (dC, dI)) (ci := 7) (v := .ref a_6) (C := RX7) (T := TX7) (N := 16) hx hb hU inlX7 hown hK hP mo0 hfo_2 rfl 3 (by decide) (hU _ wd_74) (fun _ h9 => h9) rfl dX7_pairOf_27 ?_
          refine lv_iload_n hx hb dX7_pairOf_30 rfl (lv_at hl 1 rfl) ?_
          refine lv_bipush (v := 9) hx hb dX7_pairOf_31 (by decide) ?_
          refine lv_imul hx hb dX7_pairOf_33 ?_
          refine lv_topi (fun x_22 ex_22 => ?_)
          have hx_22 : x_22.toInt = p1.toInt * 9 := by rw [ex_22, ml_I (by rw [ti_9]; omega) (by rw [ti_9]; omega), ti_9]
          have bx_22 : (0 ≤ x_22.toInt ∧ x_22.toInt ≤ 72) := by constructor <;> omega
          refine lv_iload_n hx hb dX7_pairOf_34 rfl (lv_at hl 2 rfl) ?_
          refine lv_iadd hx hb dX7_pairOf_35 ?_
          refine lv_topi (fun x_23 ex_23 => ?_)
          have hx_23 : x_23.toInt = x_22.toInt + p2.toInt := by rw [ex_23, ad_I (by omega) (by omega)]
          have bx_23 : (0 ≤ x_23.toInt ∧ x_23.toInt ≤ 80) := by constructor <;> omega
          obtain ⟨g_25, hfo_24, hbg_25⟩ := un_30 (hG _ ma_6) ka_6
          refine tk_ildP hx hb hK hP 0 ma_6 hfo_24 rfl (vp_in_iff.mpr (by constructor <;> omega)) dX7_pairOf_36 ?_
          refine lv_topi (fun x_26 ex_26 => ?_)
          have bx_26 : (0 ≤ x_26.toInt ∧ x_26.toInt ≤ 20) := by rw [ex_26]; exact hbg_25 _
          refine lv_iconst (v := 1) hx hb dX7_pairOf_37 (by decide) ?_
          refine lv_isub hx hb dX7_pairOf_38 ?_
          refine lv_topi (fun x_27 ex_27 => ?_)
          have hx_27 : x_27.toInt = x_26.toInt - 1 := by rw [ex_27, sb_I (by rw [ti_1]; omega) (by rw [ti_1]; omega), ti_1]
          have bx_27 : ((-1) ≤ x_27.toInt ∧ x_27.toInt ≤ 19) := by constructor <;> omega
          exact W.iret (v := x_27) hx hb hr (fun t ht hW => ⟨⟨x_27, f, rfl, ⟨hG, (by constructor <;> omega)⟩, by rw [ht]; exact hP, va_K.moved hW.alike hK, pl_in hD⟩, hS.F ht⟩) hS.2.2 dX7_pairOf_39
        · skip
          rw [Int32.le_iff_toInt_le] at c_21
          refine lv_iconst (v := (-1)) hx hb dX7_pairOf_24 (by decide) ?_
          exact W.iret (v := (-1)) hx hb hr (fun t ht hW => ⟨⟨(-1), f, rfl, ⟨hG, (by decide)⟩, by rw [ht]; exact hP, va_K.moved hW.alike hK, pl_in hD⟩, hS.F ht⟩) hS.2.2 dX7_pairOf_25
set_option maxHeartbeats 8000000 in
set_option maxRecDepth 100000 in
theorem s_X4_isAlways_k4 (l : Launch) (D : va_G) (cI cL cZ cR : ClassId) (kd : Nat → Nat) (L : List Nat) (f : Nat → va_E) (hG : GI (okc cI cL cZ cR L kd) kd L f) (o0 : Nat) (mo0 : o0 ∈ L) (ko0 : kd o0 = 4) : mPI l D cI cL cZ cR yX4_isAlways cX4_isAlways 1 (some .boolean) 0 0 [.ref o0] L f (fun (r : Int32) (f9 : Nat → va_E) => GI (okc cI cL cZ cR L kd) kd L f9 ∧ (0 ≤ r.toInt ∧ r.toInt ≤ 1)) := by
  obtain ⟨dC, dI⟩ := D
  refine Met.ofW (cc := cX4_isAlways) (maxL := 1) (ret := (some .boolean)) (by decide) rfl ?_
  intro p e s m args below meth c s₁ B hml hv
  obtain ⟨rfl, hP, hK, hD0, hN⟩ := hv
  have hx := B.exec
  have hb := B.bytes
  have hr := B.returns
  have hU : ∀ w ∈ wsU, w.before _ s = true := fun w h => atoms_spec (ws := wU yX4_isAlways cX4_isAlways 1 (some .boolean)) B.pre w (List.mem_cons_of_mem _ h)
  have hown : s.vm.findClass RX4 = some m.cls := findClass_of_methodNamed B.named
  have hlocks := B.notSynchronized
  have hD := pl_in hD0
  have hS : va_S (fun q => q ∈ L) s.heap s.heap [] := va_S.rf
  have hl := lv_entry ([.ref o0]) (n := 1) (Nat.le_of_ble_eq_true rfl)
  rw [lg_entry_eq]
  generalize (lg_sl ([.ref o0]) ++ List.replicate (1 - (lg_sl ([.ref o0])).length) Slot.unset).toArray = ls at hl ⊢
  have hl : lv_has ls 1 [(0, .ref o0)] := hl
  refine lv_aload_n hx hb dX4_isAlways_0 rfl (lv_at hl 0 rfl) ?_
  obtain ⟨v_2, v_3, v_4, v_5, a_6, a_7, a_8, a_9, v_10, v_11, v_12, hfo_1, bv_2, bv_3, bv_4, bv_5, ⟨ma_6, ka_6⟩, ⟨ma_7, ka_7⟩, ⟨ma_8, ka_8⟩, ⟨ma_9, ka_9⟩⟩ := un_4 (hG _ mo0) ko0
  have bv_10 : ((-2147483648) ≤ v_10.toInt ∧ v_10.toInt ≤ 2147483647) := ⟨i32_lo _, i32_hi _⟩
  have bv_11 : ((-2147483648) ≤ v_11.toInt ∧ v_11.toInt ≤ 2147483647) := ⟨i32_lo _, i32_hi _⟩
  have bv_12 : ((-2147483648) ≤ v_12.toInt ∧ v_12.toInt ≤ 2147483647) := ⟨i32_lo _, i32_hi _⟩
  refine tk_getP (D := (dC, dI)) (ci := 4) (v := .int v_4) (C := RX4) (T := TX4) (N := 11) hx hb hU inlX4 hown hK hP mo0 hfo_1 rfl 2 (by decide) (hU _ wd_409) (fun _ h9 => h9) rfl dX4_isAlways_1 ?_
  refine lv_iconst (v := 1) hx hb dX4_isAlways_4 (by decide) ?_
  refine lv_icmp_eq (tgt := 16) hx hb dX4_isAlways_5 (by decide) (fun c_13 => ?_) (fun c_13 => ?_)
  · skip
    rw [← Int32.toInt_inj, ti_1] at c_13
    refine lv_iconst (v := 1) hx hb dX4_isAlways_16 (by decide) ?_
    refine lv_goto (tgt := 21) hx hb dX4_isAlways_17 (by decide) ?_
    exact W.zret (v := 1) (ty := .boolean) hx hb hr rfl (fun t ht hW => ⟨⟨1, f, rfl, ⟨hG, (by decide)⟩, by rw [ht]; exact hP, va_K.moved hW.alike hK, pl_in hD⟩, hS.F ht⟩) hS.2.2 dX4_isAlways_21
  · skip
    rw [← Int32.toInt_inj, ti_1] at c_13
    refine lv_aload_n hx hb dX4_isAlways_8 rfl (lv_at hl 0 rfl) ?_
    refine tk_getP (D := (dC, dI)) (ci := 4) (v := .int v_4) (C := RX4) (T := TX4) (N := 11) hx hb hU inlX4 hown hK hP mo0 hfo_1 rfl 2 (by decide) (hU _ wd_409) (fun _ h9 => h9) rfl dX4_isAlways_9 ?_
    refine lv_iconst (v := 2) hx hb dX4_isAlways_12 (by decide) ?_
    refine lv_icmp_ne (tgt := 20) hx hb dX4_isAlways_13 (by decide) (fun c_14 => ?_) (fun c_14 => ?_)
    · skip
      rw [← Int32.toInt_inj, ti_2] at c_14
      refine lv_iconst (v := 0) hx hb dX4_isAlways_20 (by decide) ?_
      exact W.zret (v := 0) (ty := .boolean) hx hb hr rfl (fun t ht hW => ⟨⟨0, f, rfl, ⟨hG, (by decide)⟩, by rw [ht]; exact hP, va_K.moved hW.alike hK, pl_in hD⟩, hS.F ht⟩) hS.2.2 dX4_isAlways_21
    · skip
      rw [← Int32.toInt_inj, ti_2] at c_14
      refine lv_iconst (v := 1) hx hb dX4_isAlways_16 (by decide) ?_
      refine lv_goto (tgt := 21) hx hb dX4_isAlways_17 (by decide) ?_
      exact W.zret (v := 1) (ty := .boolean) hx hb hr rfl (fun t ht hW => ⟨⟨1, f, rfl, ⟨hG, (by decide)⟩, by rw [ht]; exact hP, va_K.moved hW.alike hK, pl_in hD⟩, hS.F ht⟩) hS.2.2 dX4_isAlways_21
set_option maxHeartbeats 8000000 in
set_option maxRecDepth 100000 in
theorem s_X4_roleOf_k4 (l : Launch) (D : va_G) (cI cL cZ cR : ClassId) (kd : Nat → Nat) (L : List Nat) (f : Nat → va_E) (hG : GI (okc cI cL cZ cR L kd) kd L f) (o0 : Nat) (mo0 : o0 ∈ L) (ko0 : kd o0 = 4) (p1 : Int32) (p2 : Int32) : mPI l D cI cL cZ cR yX4_roleOf cX4_roleOf 3 (some .int) 1 20 [.ref o0, .int p1, .int p2] L f (fun (r : Int32) (f9 : Nat → va_E) => GI (okc cI cL cZ cR L kd) kd L f9 ∧ (0 ≤ r.toInt ∧ r.toInt ≤ 2)) := by
  obtain ⟨dC, dI⟩ := D
  refine Met.ofW (cc := cX4_roleOf) (maxL := 3) (ret := (some .int)) (by decide) rfl ?_
  intro p e s m args below meth c s₁ B hml hv
  obtain ⟨rfl, hP, hK, hD0, hN⟩ := hv
  have hx := B.exec
  have hb := B.bytes
  have hr := B.returns
  have hU : ∀ w ∈ wsU, w.before _ s = true := fun w h => atoms_spec (ws := wU yX4_roleOf cX4_roleOf 3 (some .int)) B.pre w (List.mem_cons_of_mem _ h)
  have hown : s.vm.findClass RX4 = some m.cls := findClass_of_methodNamed B.named
  have hlocks := B.notSynchronized
  have hD := pl_in hD0
  have hS : va_S (fun q => q ∈ L) s.heap s.heap [] := va_S.rf
  have hl := lv_entry ([.ref o0, .int p1, .int p2]) (n := 3) (Nat.le_of_ble_eq_true rfl)
  rw [lg_entry_eq]
  generalize (lg_sl ([.ref o0, .int p1, .int p2]) ++ List.replicate (3 - (lg_sl ([.ref o0, .int p1, .int p2])).length) Slot.unset).toArray = ls at hl ⊢
  have hl : lv_has ls 3 [(0, .ref o0), (1, .int p1), (2, .int p2)] := hl
  have bp1 : ((-2147483648) ≤ p1.toInt ∧ p1.toInt ≤ 2147483647) := ⟨i32_lo _, i32_hi _⟩
  have bp2 : ((-2147483648) ≤ p2.toInt ∧ p2.toInt ≤ 2147483647) := ⟨i32_lo _, i32_hi _⟩
  refine lv_iload_n hx hb dX4_roleOf_0 rfl (lv_at hl 1 rfl) ?_
  refine lv_aload_n hx hb dX4_roleOf_1 rfl (lv_at hl 0 rfl) ?_
  obtain ⟨v_2, v_3, v_4, v_5, a_6, a_7, a_8, a_9, v_10, v_11, v_12, hfo_1, bv_2, bv_3, bv_4, bv_5, ⟨ma_6, ka_6⟩, ⟨ma_7, ka_7⟩, ⟨ma_8, ka_8⟩, ⟨ma_9, ka_9⟩⟩ := un_4 (hG _ mo0) ko0
  have bv_10 : ((-2147483648) ≤ v_10.toInt ∧ v_10.toInt ≤ 2147483647) := ⟨i32_lo _, i32_hi _⟩
  have bv_11 : ((-2147483648) ≤ v_11.toInt ∧ v_11.toInt ≤ 2147483647) := ⟨i32_lo _, i32_hi _⟩
  have bv_12 : ((-2147483648) ≤ v_12.toInt ∧ v_12.toInt ≤ 2147483647) := ⟨i32_lo _, i32_hi _⟩
  refine tk_getP (D := (dC, dI)) (ci := 4) (v := .int v_2) (C := RX4) (T := TX4) (N := 11) hx hb hU inlX4 hown hK hP mo0 hfo_1 rfl 0 (by decide) (hU _ wd_407) (fun _ h9 => h9) rfl dX4_roleOf_2 ?_
  refine lv_icmp_eq (tgt := 10) hx hb dX4_roleOf_5 (by decide) (fun c_13 => ?_) (fun c_13 => ?_)
  · skip
    rw [← Int32.toInt_inj] at c_13
    refine lv_iload_n hx hb dX4_roleOf_10 rfl (lv_at hl 2 rfl) ?_
    refine lv_aload_n hx hb dX4_roleOf_11 rfl (lv_at hl 0 rfl) ?_
    refine tk_getP (D := (dC, dI)) (ci := 4) (v := .int v_3) (C := RX4) (T := TX4) (N := 11) hx hb hU inlX4 hown hK hP mo0 hfo_1 rfl 1 (by decide) (hU _ wd_408) (fun _ h9 => h9) rfl dX4_roleOf_12 ?_
    refine lv_icmp_eq (tgt := 31) hx hb dX4_roleOf_15 (by decide) (fun c_14 => ?_) (fun c_14 => ?_)
    · skip
      rw [← Int32.toInt_inj] at c_14
      refine lv_aload_n hx hb dX4_roleOf_31 rfl (lv_at hl 0 rfl) ?_
      refine tk_getP (D := (dC, dI)) (ci := 4) (v := .int v_4) (C := RX4) (T := TX4) (N := 11) hx hb hU inlX4 hown hK hP mo0 hfo_1 rfl 2 (by decide) (hU _ wd_409) (fun _ h9 => h9) rfl dX4_roleOf_32 ?_
      refine lv_iconst (v := 3) hx hb dX4_roleOf_35 (by decide) ?_
      refine lv_icmp_ne (tgt := 41) hx hb dX4_roleOf_36 (by decide) (fun c_15 => ?_) (fun c_15 => ?_)
      · skip
        rw [← Int32.toInt_inj, ti_3] at c_15
        refine lv_aload_n hx hb dX4_roleOf_41 rfl (lv_at hl 0 rfl) ?_
        refine tk_getP (D := (dC, dI)) (ci := 4) (v := .int v_4) (C := RX4) (T := TX4) (N := 11) hx hb hU inlX4 hown hK hP mo0 hfo_1 rfl 2 (by decide) (hU _ wd_409) (fun _ h9 => h9) rfl dX4_roleOf_42 ?_
        refine lv_iconst (v := 1) hx hb dX4_roleOf_45 (by decide) ?_
        refine lv_icmp_ne (tgt := 53) hx hb dX4_roleOf_46 (by decide) (fun c_16 => ?_) (fun c_16 => ?_)
        · skip
          rw [← Int32.toInt_inj, ti_1] at c_16
          refine lv_iconst (v := 1) hx hb dX4_roleOf_53 (by decide) ?_
          exact W.iret (v := 1) hx hb hr (fun t ht hW => ⟨⟨1, f, rfl, ⟨hG, (by decide)⟩, by rw [ht]; exact hP, va_K.moved hW.alike hK, pl_in hD⟩, hS.F ht⟩) hS.2.2 dX4_roleOf_54
        · skip
          rw [← Int32.toInt_inj, ti_1] at c_16
          refine lv_iconst (v := 0) hx hb dX4_roleOf_49 (by decide) ?_
          refine lv_goto (tgt := 54) hx hb dX4_roleOf_50 (by decide) ?_
          exact W.iret (v := 0) hx hb hr (fun t ht hW => ⟨⟨0, f, rfl, ⟨hG, (by decide)⟩, by rw [ht]; exact hP, va_K.moved hW.alike hK, pl_in hD⟩, hS.F ht⟩) hS.2.2 dX4_roleOf_54
      · skip
        rw [← Int32.toInt_inj, ti_3] at c_15
        refine lv_iconst (v := 2) hx hb dX4_roleOf_39 (by decide) ?_
        exact W.iret (v := 2) hx hb hr (fun t ht hW => ⟨⟨2, f, rfl, ⟨hG, (by decide)⟩, by rw [ht]; exact hP, va_K.moved hW.alike hK, pl_in hD⟩, hS.F ht⟩) hS.2.2 dX4_roleOf_40
    · skip
      rw [← Int32.toInt_inj] at c_14
      refine lv_aload_n hx hb dX4_roleOf_18 rfl (lv_at hl 0 rfl) ?_
      refine tk_ViP (As := []) (rest := []) (n := 0) hx hb hml hown hU hN (s_X4_isAlways_k4 l (dC, dI) cI cL cZ cR kd L f hG o0 mo0 ko0) wd_511 wd_429 wd_430 wd_90 wd_431 (by decide +kernel) ⟨Nat.le_of_ble_eq_true rfl, Nat.le_of_ble_eq_true rfl⟩ hK hP hD hS mo0 hfo_1 4 rfl rfl rfl hl.1 rfl (Nat.le_of_ble_eq_true rfl) dX4_roleOf_19 ⟨Nat.le_of_ble_eq_true rfl, Nat.le_of_ble_eq_true rfl⟩ (fun x_17 f_18 H locs hw hP hD hS => ?_)
      obtain ⟨hG, bx_17⟩ := hw
      refine lv_if_eq (tgt := 29) hx hb dX4_roleOf_22 (by decide) (fun c_19 => ?_) (fun c_19 => ?_)
      · skip
        rw [← Int32.toInt_inj, ti_0] at c_19
        refine lv_iconst (v := 0) hx hb dX4_roleOf_29 (by decide) ?_
        exact W.iret (v := 0) hx hb hr (fun t ht hW => ⟨⟨0, f_18, rfl, ⟨hG, (by decide)⟩, by rw [ht]; exact hP, va_K.moved hW.alike hK, pl_in hD⟩, hS.F ht⟩) hS.2.2 dX4_roleOf_30
      · skip
        rw [← Int32.toInt_inj, ti_0] at c_19
        refine lv_iconst (v := 2) hx hb dX4_roleOf_25 (by decide) ?_
        refine lv_goto (tgt := 30) hx hb dX4_roleOf_26 (by decide) ?_
        exact W.iret (v := 2) hx hb hr (fun t ht hW => ⟨⟨2, f_18, rfl, ⟨hG, (by decide)⟩, by rw [ht]; exact hP, va_K.moved hW.alike hK, pl_in hD⟩, hS.F ht⟩) hS.2.2 dX4_roleOf_30
  · skip
    rw [← Int32.toInt_inj] at c_13
    refine lv_iconst (v := 0) hx hb dX4_roleOf_8 (by decide) ?_
    exact W.iret (v := 0) hx hb hr (fun t ht hW => ⟨⟨0, f, rfl, ⟨hG, (by decide)⟩, by rw [ht]; exact hP, va_K.moved hW.alike hK, pl_in hD⟩, hS.F ht⟩) hS.2.2 dX4_roleOf_9
set_option maxHeartbeats 8000000 in
set_option maxRecDepth 100000 in
theorem s_X4_clear_k4 (l : Launch) (D : va_G) (cI cL cZ cR : ClassId) (kd : Nat → Nat) (L : List Nat) (f : Nat → va_E) (hG : GI (okc cI cL cZ cR L kd) kd L f) (o0 : Nat) (mo0 : o0 ∈ L) (ko0 : kd o0 = 4) (p1 : Int32) (bp1 : (0 ≤ p1.toInt ∧ p1.toInt ≤ 8)) (p2 : Int32) (bp2 : (0 ≤ p2.toInt ∧ p2.toInt ≤ 8)) : mPV l D cI cL cZ cR yX4_clear cX4_clear 3 none 2 43 [.ref o0, .int p1, .int p2] L f (fun (f9 : Nat → va_E) => GI (okc cI cL cZ cR L kd) kd L f9) := by
  obtain ⟨dC, dI⟩ := D
  refine Met.ofW (cc := cX4_clear) (maxL := 3) (ret := none) (by decide) rfl ?_
  intro p e s m args below meth c s₁ B hml hv
  obtain ⟨rfl, hP, hK, hD0, hN⟩ := hv
  have hx := B.exec
  have hb := B.bytes
  have hr := B.returns
  have hU : ∀ w ∈ wsU, w.before _ s = true := fun w h => atoms_spec (ws := wU yX4_clear cX4_clear 3 none) B.pre w (List.mem_cons_of_mem _ h)
  have hown : s.vm.findClass RX4 = some m.cls := findClass_of_methodNamed B.named
  have hlocks := B.notSynchronized
  have hD := pl_in hD0
  have hS : va_S (fun q => q ∈ L) s.heap s.heap [] := va_S.rf
  have hl := lv_entry ([.ref o0, .int p1, .int p2]) (n := 3) (Nat.le_of_ble_eq_true rfl)
  rw [lg_entry_eq]
  generalize (lg_sl ([.ref o0, .int p1, .int p2]) ++ List.replicate (3 - (lg_sl ([.ref o0, .int p1, .int p2])).length) Slot.unset).toArray = ls at hl ⊢
  have hl : lv_has ls 3 [(0, .ref o0), (1, .int p1), (2, .int p2)] := hl
  refine lv_aload_n hx hb dX4_clear_0 rfl (lv_at hl 0 rfl) ?_
  refine lv_iload_n hx hb dX4_clear_1 rfl (lv_at hl 1 rfl) ?_
  obtain ⟨v_2, v_3, v_4, v_5, a_6, a_7, a_8, a_9, v_10, v_11, v_12, hfo_1, bv_2, bv_3, bv_4, bv_5, ⟨ma_6, ka_6⟩, ⟨ma_7, ka_7⟩, ⟨ma_8, ka_8⟩, ⟨ma_9, ka_9⟩⟩ := un_4 (hG _ mo0) ko0
  have bv_10 : ((-2147483648) ≤ v_10.toInt ∧ v_10.toInt ≤ 2147483647) := ⟨i32_lo _, i32_hi _⟩
  have bv_11 : ((-2147483648) ≤ v_11.toInt ∧ v_11.toInt ≤ 2147483647) := ⟨i32_lo _, i32_hi _⟩
  have bv_12 : ((-2147483648) ≤ v_12.toInt ∧ v_12.toInt ≤ 2147483647) := ⟨i32_lo _, i32_hi _⟩
  refine tk_putP (D := (dC, dI)) (ci := 4) (v := .int p1) (ty := .int) (C := RX4) (T := TX4) (N := 11) hx hb hU inlX4 tyX4 tyX4_ok nmX4 hown hK hP hD hS mo0 hfo_1 rfl 0 (by decide) (hU _ wd_407) (fun _ h9 => h9) rfl (by decide +kernel) rfl rfl (Nat.le_of_ble_eq_true rfl) dX4_clear_2 (fun H locs hP hD hS => ?_)
  obtain ⟨f_13, ef_13⟩ : ∃ y : Nat → va_E, y = va_up f o0 (.inr (4, [.int p1, .int v_3, .int v_4, .int v_5, .ref a_6, .ref a_7, .ref a_8, .ref a_9, .int v_10, .int v_11, .int v_12])) := ⟨_, rfl⟩
  have hP : va_P (dC, dI) vwCl (va_pl L f_13) H := by rw [ef_13]; exact hP
  have hD : va_D (fun q => q ∈ L) (va_pl L f_13) := by rw [ef_13]; exact hD
  have hG : GI (okc cI cL cZ cR L kd) kd L f_13 := by rw [ef_13]; exact hG.set o0 (mk_4 ko0 ⟨p1, v_3, v_4, v_5, a_6, a_7, a_8, a_9, v_10, v_11, v_12, rfl, (by constructor <;> omega), (by constructor <;> omega), (by constructor <;> omega), (by constructor <;> omega), ⟨ma_6, ka_6⟩, ⟨ma_7, ka_7⟩, ⟨ma_8, ka_8⟩, ⟨ma_9, ka_9⟩⟩)
  have hfo_14 : f_13 o0 = .inr (4, [.int p1, .int v_3, .int v_4, .int v_5, .ref a_6, .ref a_7, .ref a_8, .ref a_9, .int v_10, .int v_11, .int v_12]) := by rw [ef_13]; exact up_self
  refine lv_aload_n hx hb dX4_clear_5 rfl (lv_at hl 0 rfl) ?_
  refine lv_iload_n hx hb dX4_clear_6 rfl (lv_at hl 2 rfl) ?_
  refine tk_putP (D := (dC, dI)) (ci := 4) (v := .int p2) (ty := .int) (C := RX4) (T := TX4) (N := 11) hx hb hU inlX4 tyX4 tyX4_ok nmX4 hown hK hP hD hS mo0 hfo_14 rfl 1 (by decide) (hU _ wd_408) (fun _ h9 => h9) rfl (by decide +kernel) rfl rfl (Nat.le_of_ble_eq_true rfl) dX4_clear_7 (fun H locs hP hD hS => ?_)
  obtain ⟨f_15, ef_15⟩ : ∃ y : Nat → va_E, y = va_up f_13 o0 (.inr (4, [.int p1, .int p2, .int v_4, .int v_5, .ref a_6, .ref a_7, .ref a_8, .ref a_9, .int v_10, .int v_11, .int v_12])) := ⟨_, rfl⟩
  have hP : va_P (dC, dI) vwCl (va_pl L f_15) H := by rw [ef_15]; exact hP
  have hD : va_D (fun q => q ∈ L) (va_pl L f_15) := by rw [ef_15]; exact hD
  have hG : GI (okc cI cL cZ cR L kd) kd L f_15 := by rw [ef_15]; exact hG.set o0 (mk_4 ko0 ⟨p1, p2, v_4, v_5, a_6, a_7, a_8, a_9, v_10, v_11, v_12, rfl, (by constructor <;> omega), (by constructor <;> omega), (by constructor <;> omega), (by constructor <;> omega), ⟨ma_6, ka_6⟩, ⟨ma_7, ka_7⟩, ⟨ma_8, ka_8⟩, ⟨ma_9, ka_9⟩⟩)
  have hfo_16 : f_15 o0 = .inr (4, [.int p1, .int p2, .int v_4, .int v_5, .ref a_6, .ref a_7, .ref a_8, .ref a_9, .int v_10, .int v_11, .int v_12]) := by rw [ef_15]; exact up_self
  refine lv_aload_n hx hb dX4_clear_10 rfl (lv_at hl 0 rfl) ?_
  refine lv_iconst (v := 0) hx hb dX4_clear_11 (by decide) ?_
  refine tk_putP (D := (dC, dI)) (ci := 4) (v := .int 0) (ty := .int) (C := RX4) (T := TX4) (N := 11) hx hb hU inlX4 tyX4 tyX4_ok nmX4 hown hK hP hD hS mo0 hfo_16 rfl 2 (by decide) (hU _ wd_409) (fun _ h9 => h9) rfl (by decide +kernel) rfl rfl (Nat.le_of_ble_eq_true rfl) dX4_clear_12 (fun H locs hP hD hS => ?_)
  obtain ⟨f_17, ef_17⟩ : ∃ y : Nat → va_E, y = va_up f_15 o0 (.inr (4, [.int p1, .int p2, .int 0, .int v_5, .ref a_6, .ref a_7, .ref a_8, .ref a_9, .int v_10, .int v_11, .int v_12])) := ⟨_, rfl⟩
  have hP : va_P (dC, dI) vwCl (va_pl L f_17) H := by rw [ef_17]; exact hP
  have hD : va_D (fun q => q ∈ L) (va_pl L f_17) := by rw [ef_17]; exact hD
  have hG : GI (okc cI cL cZ cR L kd) kd L f_17 := by rw [ef_17]; exact hG.set o0 (mk_4 ko0 ⟨p1, p2, 0, v_5, a_6, a_7, a_8, a_9, v_10, v_11, v_12, rfl, (by constructor <;> omega), (by constructor <;> omega), (by decide), (by constructor <;> omega), ⟨ma_6, ka_6⟩, ⟨ma_7, ka_7⟩, ⟨ma_8, ka_8⟩, ⟨ma_9, ka_9⟩⟩)
  have hfo_18 : f_17 o0 = .inr (4, [.int p1, .int p2, .int 0, .int v_5, .ref a_6, .ref a_7, .ref a_8, .ref a_9, .int v_10, .int v_11, .int v_12]) := by rw [ef_17]; exact up_self
  refine lv_aload_n hx hb dX4_clear_15 rfl (lv_at hl 0 rfl) ?_
  refine lv_iconst (v := 0) hx hb dX4_clear_16 (by decide) ?_
  refine tk_putP (D := (dC, dI)) (ci := 4) (v := .int 0) (ty := .int) (C := RX4) (T := TX4) (N := 11) hx hb hU inlX4 tyX4 tyX4_ok nmX4 hown hK hP hD hS mo0 hfo_18 rfl 3 (by decide) (hU _ wd_410) (fun _ h9 => h9) rfl (by decide +kernel) rfl rfl (Nat.le_of_ble_eq_true rfl) dX4_clear_17 (fun H locs hP hD hS => ?_)
  obtain ⟨f_19, ef_19⟩ : ∃ y : Nat → va_E, y = va_up f_17 o0 (.inr (4, [.int p1, .int p2, .int 0, .int 0, .ref a_6, .ref a_7, .ref a_8, .ref a_9, .int v_10, .int v_11, .int v_12])) := ⟨_, rfl⟩
  have hP : va_P (dC, dI) vwCl (va_pl L f_19) H := by rw [ef_19]; exact hP
  have hD : va_D (fun q => q ∈ L) (va_pl L f_19) := by rw [ef_19]; exact hD
  have hG : GI (okc cI cL cZ cR L kd) kd L f_19 := by rw [ef_19]; exact hG.set o0 (mk_4 ko0 ⟨p1, p2, 0, 0, a_6, a_7, a_8, a_9, v_10, v_11, v_12, rfl, (by constructor <;> omega), (by constructor <;> omega), (by decide), (by decide), ⟨ma_6, ka_6⟩, ⟨ma_7, ka_7⟩, ⟨ma_8, ka_8⟩, ⟨ma_9, ka_9⟩⟩)
  have hfo_20 : f_19 o0 = .inr (4, [.int p1, .int p2, .int 0, .int 0, .ref a_6, .ref a_7, .ref a_8, .ref a_9, .int v_10, .int v_11, .int v_12]) := by rw [ef_19]; exact up_self
  refine lv_aload_n hx hb dX4_clear_20 rfl (lv_at hl 0 rfl) ?_
  refine tk_getP (D := (dC, dI)) (ci := 4) (v := .ref a_6) (C := RX4) (T := TX4) (N := 11) hx hb hU inlX4 hown hK hP mo0 hfo_20 rfl 4 (by decide) (hU _ wd_103) (fun _ h9 => h9) rfl dX4_clear_21 ?_
  obtain ⟨a_22, a_23, a_24, v_25, v_26, v_27, hfo_21, ⟨ma_22, ka_22⟩, ⟨ma_23, ka_23⟩, ⟨ma_24, ka_24⟩⟩ := un_5 (hG _ ma_6) ka_6
  have bv_25 : ((-2147483648) ≤ v_25.toInt ∧ v_25.toInt ≤ 2147483647) := ⟨i32_lo _, i32_hi _⟩
  have bv_26 : ((-2147483648) ≤ v_26.toInt ∧ v_26.toInt ≤ 2147483647) := ⟨i32_lo _, i32_hi _⟩
  have bv_27 : ((-2147483648) ≤ v_27.toInt ∧ v_27.toInt ≤ 2147483647) := ⟨i32_lo _, i32_hi _⟩
  refine tk_VvP (As := []) (rest := []) (n := 0) hx hb hml hown hU hN (s_X5_clear_k5 l (dC, dI) cI cL cZ cR kd L f_19 hG a_6 ma_6 ka_6) wd_411 wd_412 wd_413 wd_102 wd_414 (by decide +kernel) ⟨Nat.le_of_ble_eq_true rfl, Nat.le_of_ble_eq_true rfl⟩ hK hP hD hS ma_6 hfo_21 5 rfl rfl rfl hl.1 rfl (Nat.le_of_ble_eq_true rfl) dX4_clear_24 ⟨Nat.le_of_ble_eq_true rfl, Nat.le_of_ble_eq_true rfl⟩ (fun f_29 H locs hw hP hD hS => ?_)
  have hG : GI (okc cI cL cZ cR L kd) kd L f_29 := hw
  refine lv_aload_n hx hb dX4_clear_27 rfl (lv_at hl 0 rfl) ?_
  obtain ⟨v_31, v_32, v_33, v_34, a_35, a_36, a_37, a_38, v_39, v_40, v_41, hfo_30, bv_31, bv_32, bv_33, bv_34, ⟨ma_35, ka_35⟩, ⟨ma_36, ka_36⟩, ⟨ma_37, ka_37⟩, ⟨ma_38, ka_38⟩⟩ := un_4 (hG _ mo0) ko0
  have bv_39 : ((-2147483648) ≤ v_39.toInt ∧ v_39.toInt ≤ 2147483647) := ⟨i32_lo _, i32_hi _⟩
  have bv_40 : ((-2147483648) ≤ v_40.toInt ∧ v_40.toInt ≤ 2147483647) := ⟨i32_lo _, i32_hi _⟩
  have bv_41 : ((-2147483648) ≤ v_41.toInt ∧ v_41.toInt ≤ 2147483647) := ⟨i32_lo _, i32_hi _⟩
  refine tk_getP (D := (dC, dI)) (ci := 4) (v := .ref a_36) (C := RX4) (T := TX4) (N := 11) hx hb hU inlX4 hown hK hP mo0 hfo_30 rfl 5 (by decide) (hU _ wd_104) (fun _ h9 => h9) rfl dX4_clear_28 ?_
  obtain ⟨a_43, a_44, a_45, v_46, v_47, v_48, hfo_42, ⟨ma_43, ka_43⟩, ⟨ma_44, ka_44⟩, ⟨ma_45, ka_45⟩⟩ := un_5 (hG _ ma_36) ka_36
  have bv_46 : ((-2147483648) ≤ v_46.toInt ∧ v_46.toInt ≤ 2147483647) := ⟨i32_lo _, i32_hi _⟩
  have bv_47 : ((-2147483648) ≤ v_47.toInt ∧ v_47.toInt ≤ 2147483647) := ⟨i32_lo _, i32_hi _⟩
  have bv_48 : ((-2147483648) ≤ v_48.toInt ∧ v_48.toInt ≤ 2147483647) := ⟨i32_lo _, i32_hi _⟩
  refine tk_VvP (As := []) (rest := []) (n := 0) hx hb hml hown hU hN (s_X5_clear_k5 l (dC, dI) cI cL cZ cR kd L f_29 hG a_36 ma_36 ka_36) wd_411 wd_412 wd_413 wd_102 wd_414 (by decide +kernel) ⟨Nat.le_of_ble_eq_true rfl, Nat.le_of_ble_eq_true rfl⟩ hK hP hD hS ma_36 hfo_42 5 rfl rfl rfl hl.1 rfl (Nat.le_of_ble_eq_true rfl) dX4_clear_31 ⟨Nat.le_of_ble_eq_true rfl, Nat.le_of_ble_eq_true rfl⟩ (fun f_50 H locs hw hP hD hS => ?_)
  have hG : GI (okc cI cL cZ cR L kd) kd L f_50 := hw
  exact W.vret hx hb hr (fun t ht hW => ⟨⟨f_50, rfl, hG, by rw [ht]; exact hP, va_K.moved hW.alike hK, pl_in hD⟩, hS.F ht⟩) hS.2.2 dX4_clear_34
set_option maxHeartbeats 8000000 in
set_option maxRecDepth 100000 in
theorem s_X4_copyFrom_k4_k4 (l : Launch) (D : va_G) (cI cL cZ cR : ClassId) (kd : Nat → Nat) (L : List Nat) (f : Nat → va_E) (hG : GI (okc cI cL cZ cR L kd) kd L f) (o0 : Nat) (mo0 : o0 ∈ L) (ko0 : kd o0 = 4) (o1 : Nat) (mo1 : o1 ∈ L) (ko1 : kd o1 = 4) : mPV l D cI cL cZ cR yX4_copyFrom cX4_copyFrom 2 none 2 61 [.ref o0, .ref o1] L f (fun (f9 : Nat → va_E) => GI (okc cI cL cZ cR L kd) kd L f9) := by
  obtain ⟨dC, dI⟩ := D
  refine Met.ofW (cc := cX4_copyFrom) (maxL := 2) (ret := none) (by decide) rfl ?_
  intro p e s m args below meth c s₁ B hml hv
  obtain ⟨rfl, hP, hK, hD0, hN⟩ := hv
  have hx := B.exec
  have hb := B.bytes
  have hr := B.returns
  have hU : ∀ w ∈ wsU, w.before _ s = true := fun w h => atoms_spec (ws := wU yX4_copyFrom cX4_copyFrom 2 none) B.pre w (List.mem_cons_of_mem _ h)
  have hown : s.vm.findClass RX4 = some m.cls := findClass_of_methodNamed B.named
  have hlocks := B.notSynchronized
  have hD := pl_in hD0
  have hS : va_S (fun q => q ∈ L) s.heap s.heap [] := va_S.rf
  have hl := lv_entry ([.ref o0, .ref o1]) (n := 2) (Nat.le_of_ble_eq_true rfl)
  rw [lg_entry_eq]
  generalize (lg_sl ([.ref o0, .ref o1]) ++ List.replicate (2 - (lg_sl ([.ref o0, .ref o1])).length) Slot.unset).toArray = ls at hl ⊢
  have hl : lv_has ls 2 [(0, .ref o0), (1, .ref o1)] := hl
  refine lv_aload_n hx hb dX4_copyFrom_0 rfl (lv_at hl 0 rfl) ?_
  refine lv_aload_n hx hb dX4_copyFrom_1 rfl (lv_at hl 1 rfl) ?_
  obtain ⟨v_2, v_3, v_4, v_5, a_6, a_7, a_8, a_9, v_10, v_11, v_12, hfo_1, bv_2, bv_3, bv_4, bv_5, ⟨ma_6, ka_6⟩, ⟨ma_7, ka_7⟩, ⟨ma_8, ka_8⟩, ⟨ma_9, ka_9⟩⟩ := un_4 (hG _ mo1) ko1
  have bv_10 : ((-2147483648) ≤ v_10.toInt ∧ v_10.toInt ≤ 2147483647) := ⟨i32_lo _, i32_hi _⟩
  have bv_11 : ((-2147483648) ≤ v_11.toInt ∧ v_11.toInt ≤ 2147483647) := ⟨i32_lo _, i32_hi _⟩
  have bv_12 : ((-2147483648) ≤ v_12.toInt ∧ v_12.toInt ≤ 2147483647) := ⟨i32_lo _, i32_hi _⟩
  refine tk_getP (D := (dC, dI)) (ci := 4) (v := .int v_2) (C := RX4) (T := TX4) (N := 11) hx hb hU inlX4 hown hK hP mo1 hfo_1 rfl 0 (by decide) (hU _ wd_407) (fun _ h9 => h9) rfl dX4_copyFrom_2 ?_
  obtain ⟨v_14, v_15, v_16, v_17, a_18, a_19, a_20, a_21, v_22, v_23, v_24, hfo_13, bv_14, bv_15, bv_16, bv_17, ⟨ma_18, ka_18⟩, ⟨ma_19, ka_19⟩, ⟨ma_20, ka_20⟩, ⟨ma_21, ka_21⟩⟩ := un_4 (hG _ mo0) ko0
  have bv_22 : ((-2147483648) ≤ v_22.toInt ∧ v_22.toInt ≤ 2147483647) := ⟨i32_lo _, i32_hi _⟩
  have bv_23 : ((-2147483648) ≤ v_23.toInt ∧ v_23.toInt ≤ 2147483647) := ⟨i32_lo _, i32_hi _⟩
  have bv_24 : ((-2147483648) ≤ v_24.toInt ∧ v_24.toInt ≤ 2147483647) := ⟨i32_lo _, i32_hi _⟩
  refine tk_putP (D := (dC, dI)) (ci := 4) (v := .int v_2) (ty := .int) (C := RX4) (T := TX4) (N := 11) hx hb hU inlX4 tyX4 tyX4_ok nmX4 hown hK hP hD hS mo0 hfo_13 rfl 0 (by decide) (hU _ wd_407) (fun _ h9 => h9) rfl (by decide +kernel) rfl rfl (Nat.le_of_ble_eq_true rfl) dX4_copyFrom_5 (fun H locs hP hD hS => ?_)
  obtain ⟨f_25, ef_25⟩ : ∃ y : Nat → va_E, y = va_up f o0 (.inr (4, [.int v_2, .int v_15, .int v_16, .int v_17, .ref a_18, .ref a_19, .ref a_20, .ref a_21, .int v_22, .int v_23, .int v_24])) := ⟨_, rfl⟩
  have hP : va_P (dC, dI) vwCl (va_pl L f_25) H := by rw [ef_25]; exact hP
  have hD : va_D (fun q => q ∈ L) (va_pl L f_25) := by rw [ef_25]; exact hD
  have hG : GI (okc cI cL cZ cR L kd) kd L f_25 := by rw [ef_25]; exact hG.set o0 (mk_4 ko0 ⟨v_2, v_15, v_16, v_17, a_18, a_19, a_20, a_21, v_22, v_23, v_24, rfl, (by constructor <;> omega), (by constructor <;> omega), (by constructor <;> omega), (by constructor <;> omega), ⟨ma_18, ka_18⟩, ⟨ma_19, ka_19⟩, ⟨ma_20, ka_20⟩, ⟨ma_21, ka_21⟩⟩)
  have hfo_26 : f_25 o0 = .inr (4, [.int v_2, .int v_15, .int v_16, .int v_17, .ref a_18, .ref a_19, .ref a_20, .ref a_21, .int v_22, .int v_23, .int v_24]) := by rw [ef_25]; exact up_self
  refine lv_aload_n hx hb dX4_copyFrom_8 rfl (lv_at hl 0 rfl) ?_
  refine lv_aload_n hx hb dX4_copyFrom_9 rfl (lv_at hl 1 rfl) ?_
  obtain ⟨v_28, v_29, v_30, v_31, a_32, a_33, a_34, a_35, v_36, v_37, v_38, hfo_27, bv_28, bv_29, bv_30, bv_31, ⟨ma_32, ka_32⟩, ⟨ma_33, ka_33⟩, ⟨ma_34, ka_34⟩, ⟨ma_35, ka_35⟩⟩ := un_4 (hG _ mo1) ko1
  have bv_36 : ((-2147483648) ≤ v_36.toInt ∧ v_36.toInt ≤ 2147483647) := ⟨i32_lo _, i32_hi _⟩
  have bv_37 : ((-2147483648) ≤ v_37.toInt ∧ v_37.toInt ≤ 2147483647) := ⟨i32_lo _, i32_hi _⟩
  have bv_38 : ((-2147483648) ≤ v_38.toInt ∧ v_38.toInt ≤ 2147483647) := ⟨i32_lo _, i32_hi _⟩
  refine tk_getP (D := (dC, dI)) (ci := 4) (v := .int v_29) (C := RX4) (T := TX4) (N := 11) hx hb hU inlX4 hown hK hP mo1 hfo_27 rfl 1 (by decide) (hU _ wd_408) (fun _ h9 => h9) rfl dX4_copyFrom_10 ?_
  refine tk_putP (D := (dC, dI)) (ci := 4) (v := .int v_29) (ty := .int) (C := RX4) (T := TX4) (N := 11) hx hb hU inlX4 tyX4 tyX4_ok nmX4 hown hK hP hD hS mo0 hfo_26 rfl 1 (by decide) (hU _ wd_408) (fun _ h9 => h9) rfl (by decide +kernel) rfl rfl (Nat.le_of_ble_eq_true rfl) dX4_copyFrom_13 (fun H locs hP hD hS => ?_)
  obtain ⟨f_39, ef_39⟩ : ∃ y : Nat → va_E, y = va_up f_25 o0 (.inr (4, [.int v_2, .int v_29, .int v_16, .int v_17, .ref a_18, .ref a_19, .ref a_20, .ref a_21, .int v_22, .int v_23, .int v_24])) := ⟨_, rfl⟩
  have hP : va_P (dC, dI) vwCl (va_pl L f_39) H := by rw [ef_39]; exact hP
  have hD : va_D (fun q => q ∈ L) (va_pl L f_39) := by rw [ef_39]; exact hD
  have hG : GI (okc cI cL cZ cR L kd) kd L f_39 := by rw [ef_39]; exact hG.set o0 (mk_4 ko0 ⟨v_2, v_29, v_16, v_17, a_18, a_19, a_20, a_21, v_22, v_23, v_24, rfl, (by constructor <;> omega), (by constructor <;> omega), (by constructor <;> omega), (by constructor <;> omega), ⟨ma_18, ka_18⟩, ⟨ma_19, ka_19⟩, ⟨ma_20, ka_20⟩, ⟨ma_21, ka_21⟩⟩)
  have hfo_40 : f_39 o0 = .inr (4, [.int v_2, .int v_29, .int v_16, .int v_17, .ref a_18, .ref a_19, .ref a_20, .ref a_21, .int v_22, .int v_23, .int v_24]) := by rw [ef_39]; exact up_self
  refine lv_aload_n hx hb dX4_copyFrom_16 rfl (lv_at hl 0 rfl) ?_
  refine lv_aload_n hx hb dX4_copyFrom_17 rfl (lv_at hl 1 rfl) ?_
  obtain ⟨v_42, v_43, v_44, v_45, a_46, a_47, a_48, a_49, v_50, v_51, v_52, hfo_41, bv_42, bv_43, bv_44, bv_45, ⟨ma_46, ka_46⟩, ⟨ma_47, ka_47⟩, ⟨ma_48, ka_48⟩, ⟨ma_49, ka_49⟩⟩ := un_4 (hG _ mo1) ko1
  have bv_50 : ((-2147483648) ≤ v_50.toInt ∧ v_50.toInt ≤ 2147483647) := ⟨i32_lo _, i32_hi _⟩
  have bv_51 : ((-2147483648) ≤ v_51.toInt ∧ v_51.toInt ≤ 2147483647) := ⟨i32_lo _, i32_hi _⟩
  have bv_52 : ((-2147483648) ≤ v_52.toInt ∧ v_52.toInt ≤ 2147483647) := ⟨i32_lo _, i32_hi _⟩
  refine tk_getP (D := (dC, dI)) (ci := 4) (v := .int v_44) (C := RX4) (T := TX4) (N := 11) hx hb hU inlX4 hown hK hP mo1 hfo_41 rfl 2 (by decide) (hU _ wd_409) (fun _ h9 => h9) rfl dX4_copyFrom_18 ?_
  refine tk_putP (D := (dC, dI)) (ci := 4) (v := .int v_44) (ty := .int) (C := RX4) (T := TX4) (N := 11) hx hb hU inlX4 tyX4 tyX4_ok nmX4 hown hK hP hD hS mo0 hfo_40 rfl 2 (by decide) (hU _ wd_409) (fun _ h9 => h9) rfl (by decide +kernel) rfl rfl (Nat.le_of_ble_eq_true rfl) dX4_copyFrom_21 (fun H locs hP hD hS => ?_)
  obtain ⟨f_53, ef_53⟩ : ∃ y : Nat → va_E, y = va_up f_39 o0 (.inr (4, [.int v_2, .int v_29, .int v_44, .int v_17, .ref a_18, .ref a_19, .ref a_20, .ref a_21, .int v_22, .int v_23, .int v_24])) := ⟨_, rfl⟩
  have hP : va_P (dC, dI) vwCl (va_pl L f_53) H := by rw [ef_53]; exact hP
  have hD : va_D (fun q => q ∈ L) (va_pl L f_53) := by rw [ef_53]; exact hD
  have hG : GI (okc cI cL cZ cR L kd) kd L f_53 := by rw [ef_53]; exact hG.set o0 (mk_4 ko0 ⟨v_2, v_29, v_44, v_17, a_18, a_19, a_20, a_21, v_22, v_23, v_24, rfl, (by constructor <;> omega), (by constructor <;> omega), (by constructor <;> omega), (by constructor <;> omega), ⟨ma_18, ka_18⟩, ⟨ma_19, ka_19⟩, ⟨ma_20, ka_20⟩, ⟨ma_21, ka_21⟩⟩)
  have hfo_54 : f_53 o0 = .inr (4, [.int v_2, .int v_29, .int v_44, .int v_17, .ref a_18, .ref a_19, .ref a_20, .ref a_21, .int v_22, .int v_23, .int v_24]) := by rw [ef_53]; exact up_self
  refine lv_aload_n hx hb dX4_copyFrom_24 rfl (lv_at hl 0 rfl) ?_
  refine lv_aload_n hx hb dX4_copyFrom_25 rfl (lv_at hl 1 rfl) ?_
  obtain ⟨v_56, v_57, v_58, v_59, a_60, a_61, a_62, a_63, v_64, v_65, v_66, hfo_55, bv_56, bv_57, bv_58, bv_59, ⟨ma_60, ka_60⟩, ⟨ma_61, ka_61⟩, ⟨ma_62, ka_62⟩, ⟨ma_63, ka_63⟩⟩ := un_4 (hG _ mo1) ko1
  have bv_64 : ((-2147483648) ≤ v_64.toInt ∧ v_64.toInt ≤ 2147483647) := ⟨i32_lo _, i32_hi _⟩
  have bv_65 : ((-2147483648) ≤ v_65.toInt ∧ v_65.toInt ≤ 2147483647) := ⟨i32_lo _, i32_hi _⟩
  have bv_66 : ((-2147483648) ≤ v_66.toInt ∧ v_66.toInt ≤ 2147483647) := ⟨i32_lo _, i32_hi _⟩
  refine tk_getP (D := (dC, dI)) (ci := 4) (v := .int v_59) (C := RX4) (T := TX4) (N := 11) hx hb hU inlX4 hown hK hP mo1 hfo_55 rfl 3 (by decide) (hU _ wd_410) (fun _ h9 => h9) rfl dX4_copyFrom_26 ?_
  refine tk_putP (D := (dC, dI)) (ci := 4) (v := .int v_59) (ty := .int) (C := RX4) (T := TX4) (N := 11) hx hb hU inlX4 tyX4 tyX4_ok nmX4 hown hK hP hD hS mo0 hfo_54 rfl 3 (by decide) (hU _ wd_410) (fun _ h9 => h9) rfl (by decide +kernel) rfl rfl (Nat.le_of_ble_eq_true rfl) dX4_copyFrom_29 (fun H locs hP hD hS => ?_)
  obtain ⟨f_67, ef_67⟩ : ∃ y : Nat → va_E, y = va_up f_53 o0 (.inr (4, [.int v_2, .int v_29, .int v_44, .int v_59, .ref a_18, .ref a_19, .ref a_20, .ref a_21, .int v_22, .int v_23, .int v_24])) := ⟨_, rfl⟩
  have hP : va_P (dC, dI) vwCl (va_pl L f_67) H := by rw [ef_67]; exact hP
  have hD : va_D (fun q => q ∈ L) (va_pl L f_67) := by rw [ef_67]; exact hD
  have hG : GI (okc cI cL cZ cR L kd) kd L f_67 := by rw [ef_67]; exact hG.set o0 (mk_4 ko0 ⟨v_2, v_29, v_44, v_59, a_18, a_19, a_20, a_21, v_22, v_23, v_24, rfl, (by constructor <;> omega), (by constructor <;> omega), (by constructor <;> omega), (by constructor <;> omega), ⟨ma_18, ka_18⟩, ⟨ma_19, ka_19⟩, ⟨ma_20, ka_20⟩, ⟨ma_21, ka_21⟩⟩)
  have hfo_68 : f_67 o0 = .inr (4, [.int v_2, .int v_29, .int v_44, .int v_59, .ref a_18, .ref a_19, .ref a_20, .ref a_21, .int v_22, .int v_23, .int v_24]) := by rw [ef_67]; exact up_self
  refine lv_aload_n hx hb dX4_copyFrom_32 rfl (lv_at hl 0 rfl) ?_
  refine tk_getP (D := (dC, dI)) (ci := 4) (v := .ref a_18) (C := RX4) (T := TX4) (N := 11) hx hb hU inlX4 hown hK hP mo0 hfo_68 rfl 4 (by decide) (hU _ wd_103) (fun _ h9 => h9) rfl dX4_copyFrom_33 ?_
  refine lv_aload_n hx hb dX4_copyFrom_36 rfl (lv_at hl 1 rfl) ?_
  obtain ⟨v_70, v_71, v_72, v_73, a_74, a_75, a_76, a_77, v_78, v_79, v_80, hfo_69, bv_70, bv_71, bv_72, bv_73, ⟨ma_74, ka_74⟩, ⟨ma_75, ka_75⟩, ⟨ma_76, ka_76⟩, ⟨ma_77, ka_77⟩⟩ := un_4 (hG _ mo1) ko1
  have bv_78 : ((-2147483648) ≤ v_78.toInt ∧ v_78.toInt ≤ 2147483647) := ⟨i32_lo _, i32_hi _⟩
  have bv_79 : ((-2147483648) ≤ v_79.toInt ∧ v_79.toInt ≤ 2147483647) := ⟨i32_lo _, i32_hi _⟩
  have bv_80 : ((-2147483648) ≤ v_80.toInt ∧ v_80.toInt ≤ 2147483647) := ⟨i32_lo _, i32_hi _⟩
  refine tk_getP (D := (dC, dI)) (ci := 4) (v := .ref a_74) (C := RX4) (T := TX4) (N := 11) hx hb hU inlX4 hown hK hP mo1 hfo_69 rfl 4 (by decide) (hU _ wd_103) (fun _ h9 => h9) rfl dX4_copyFrom_37 ?_
  obtain ⟨a_82, a_83, a_84, v_85, v_86, v_87, hfo_81, ⟨ma_82, ka_82⟩, ⟨ma_83, ka_83⟩, ⟨ma_84, ka_84⟩⟩ := un_5 (hG _ ma_18) ka_18
  have bv_85 : ((-2147483648) ≤ v_85.toInt ∧ v_85.toInt ≤ 2147483647) := ⟨i32_lo _, i32_hi _⟩
  have bv_86 : ((-2147483648) ≤ v_86.toInt ∧ v_86.toInt ≤ 2147483647) := ⟨i32_lo _, i32_hi _⟩
  have bv_87 : ((-2147483648) ≤ v_87.toInt ∧ v_87.toInt ≤ 2147483647) := ⟨i32_lo _, i32_hi _⟩
  refine tk_VvP (As := [.ref a_74]) (rest := []) (n := 1) hx hb hml hown hU hN (s_X5_copyFrom_k5_k5 l (dC, dI) cI cL cZ cR kd L f_67 hG a_18 ma_18 ka_18 a_74 ma_74 ka_74) wd_540 wd_541 wd_542 wd_102 wd_543 (by decide +kernel) ⟨Nat.le_of_ble_eq_true rfl, Nat.le_of_ble_eq_true rfl⟩ hK hP hD hS ma_18 hfo_81 5 rfl rfl rfl hl.1 rfl (Nat.le_of_ble_eq_true rfl) dX4_copyFrom_40 ⟨Nat.le_of_ble_eq_true rfl, Nat.le_of_ble_eq_true rfl⟩ (fun f_89 H locs hw hP hD hS => ?_)
  have hG : GI (okc cI cL cZ cR L kd) kd L f_89 := hw
  refine lv_aload_n hx hb dX4_copyFrom_43 rfl (lv_at hl 0 rfl) ?_
  obtain ⟨v_91, v_92, v_93, v_94, a_95, a_96, a_97, a_98, v_99, v_100, v_101, hfo_90, bv_91, bv_92, bv_93, bv_94, ⟨ma_95, ka_95⟩, ⟨ma_96, ka_96⟩, ⟨ma_97, ka_97⟩, ⟨ma_98, ka_98⟩⟩ := un_4 (hG _ mo0) ko0
  have bv_99 : ((-2147483648) ≤ v_99.toInt ∧ v_99.toInt ≤ 2147483647) := ⟨i32_lo _, i32_hi _⟩
  have bv_100 : ((-2147483648) ≤ v_100.toInt ∧ v_100.toInt ≤ 2147483647) := ⟨i32_lo _, i32_hi _⟩
  have bv_101 : ((-2147483648) ≤ v_101.toInt ∧ v_101.toInt ≤ 2147483647) := ⟨i32_lo _, i32_hi _⟩
  refine tk_getP (D := (dC, dI)) (ci := 4) (v := .ref a_96) (C := RX4) (T := TX4) (N := 11) hx hb hU inlX4 hown hK hP mo0 hfo_90 rfl 5 (by decide) (hU _ wd_104) (fun _ h9 => h9) rfl dX4_copyFrom_44 ?_
  refine lv_aload_n hx hb dX4_copyFrom_47 rfl (lv_at hl 1 rfl) ?_
  obtain ⟨v_103, v_104, v_105, v_106, a_107, a_108, a_109, a_110, v_111, v_112, v_113, hfo_102, bv_103, bv_104, bv_105, bv_106, ⟨ma_107, ka_107⟩, ⟨ma_108, ka_108⟩, ⟨ma_109, ka_109⟩, ⟨ma_110, ka_110⟩⟩ := un_4 (hG _ mo1) ko1
  have bv_111 : ((-2147483648) ≤ v_111.toInt ∧ v_111.toInt ≤ 2147483647) := ⟨i32_lo _, i32_hi _⟩
  have bv_112 : ((-2147483648) ≤ v_112.toInt ∧ v_112.toInt ≤ 2147483647) := ⟨i32_lo _, i32_hi _⟩
  have bv_113 : ((-2147483648) ≤ v_113.toInt ∧ v_113.toInt ≤ 2147483647) := ⟨i32_lo _, i32_hi _⟩
  refine tk_getP (D := (dC, dI)) (ci := 4) (v := .ref a_108) (C := RX4) (T := TX4) (N := 11) hx hb hU inlX4 hown hK hP mo1 hfo_102 rfl 5 (by decide) (hU _ wd_104) (fun _ h9 => h9) rfl dX4_copyFrom_48 ?_
  obtain ⟨a_115, a_116, a_117, v_118, v_119, v_120, hfo_114, ⟨ma_115, ka_115⟩, ⟨ma_116, ka_116⟩, ⟨ma_117, ka_117⟩⟩ := un_5 (hG _ ma_96) ka_96
  have bv_118 : ((-2147483648) ≤ v_118.toInt ∧ v_118.toInt ≤ 2147483647) := ⟨i32_lo _, i32_hi _⟩
  have bv_119 : ((-2147483648) ≤ v_119.toInt ∧ v_119.toInt ≤ 2147483647) := ⟨i32_lo _, i32_hi _⟩
  have bv_120 : ((-2147483648) ≤ v_120.toInt ∧ v_120.toInt ≤ 2147483647) := ⟨i32_lo _, i32_hi _⟩
  refine tk_VvP (As := [.ref a_108]) (rest := []) (n := 1) hx hb hml hown hU hN (s_X5_copyFrom_k5_k5 l (dC, dI) cI cL cZ cR kd L f_89 hG a_96 ma_96 ka_96 a_108 ma_108 ka_108) wd_540 wd_541 wd_542 wd_102 wd_543 (by decide +kernel) ⟨Nat.le_of_ble_eq_true rfl, Nat.le_of_ble_eq_true rfl⟩ hK hP hD hS ma_96 hfo_114 5 rfl rfl rfl hl.1 rfl (Nat.le_of_ble_eq_true rfl) dX4_copyFrom_51 ⟨Nat.le_of_ble_eq_true rfl, Nat.le_of_ble_eq_true rfl⟩ (fun f_122 H locs hw hP hD hS => ?_)
  have hG : GI (okc cI cL cZ cR L kd) kd L f_122 := hw
  refine lv_aload_n hx hb dX4_copyFrom_54 rfl (lv_at hl 1 rfl) ?_
  obtain ⟨v_124, v_125, v_126, v_127, a_128, a_129, a_130, a_131, v_132, v_133, v_134, hfo_123, bv_124, bv_125, bv_126, bv_127, ⟨ma_128, ka_128⟩, ⟨ma_129, ka_129⟩, ⟨ma_130, ka_130⟩, ⟨ma_131, ka_131⟩⟩ := un_4 (hG _ mo1) ko1
  have bv_132 : ((-2147483648) ≤ v_132.toInt ∧ v_132.toInt ≤ 2147483647) := ⟨i32_lo _, i32_hi _⟩
  have bv_133 : ((-2147483648) ≤ v_133.toInt ∧ v_133.toInt ≤ 2147483647) := ⟨i32_lo _, i32_hi _⟩
  have bv_134 : ((-2147483648) ≤ v_134.toInt ∧ v_134.toInt ≤ 2147483647) := ⟨i32_lo _, i32_hi _⟩
  refine tk_getP (D := (dC, dI)) (ci := 4) (v := .ref a_130) (C := RX4) (T := TX4) (N := 11) hx hb hU inlX4 hown hK hP mo1 hfo_123 rfl 6 (by decide) (hU _ wd_105) (fun _ h9 => h9) rfl dX4_copyFrom_55 ?_
  refine lv_iconst (v := 0) hx hb dX4_copyFrom_58 (by decide) ?_
  refine lv_aload_n hx hb dX4_copyFrom_59 rfl (lv_at hl 0 rfl) ?_
  obtain ⟨v_136, v_137, v_138, v_139, a_140, a_141, a_142, a_143, v_144, v_145, v_146, hfo_135, bv_136, bv_137, bv_138, bv_139, ⟨ma_140, ka_140⟩, ⟨ma_141, ka_141⟩, ⟨ma_142, ka_142⟩, ⟨ma_143, ka_143⟩⟩ := un_4 (hG _ mo0) ko0
  have bv_144 : ((-2147483648) ≤ v_144.toInt ∧ v_144.toInt ≤ 2147483647) := ⟨i32_lo _, i32_hi _⟩
  have bv_145 : ((-2147483648) ≤ v_145.toInt ∧ v_145.toInt ≤ 2147483647) := ⟨i32_lo _, i32_hi _⟩
  have bv_146 : ((-2147483648) ≤ v_146.toInt ∧ v_146.toInt ≤ 2147483647) := ⟨i32_lo _, i32_hi _⟩
  refine tk_getP (D := (dC, dI)) (ci := 4) (v := .ref a_142) (C := RX4) (T := TX4) (N := 11) hx hb hU inlX4 hown hK hP mo0 hfo_135 rfl 6 (by decide) (hU _ wd_105) (fun _ h9 => h9) rfl dX4_copyFrom_60 ?_
  refine lv_iconst (v := 0) hx hb dX4_copyFrom_63 (by decide) ?_
  refine lv_aload_n hx hb dX4_copyFrom_64 rfl (lv_at hl 0 rfl) ?_
  refine tk_getP (D := (dC, dI)) (ci := 4) (v := .ref a_142) (C := RX4) (T := TX4) (N := 11) hx hb hU inlX4 hown hK hP mo0 hfo_135 rfl 6 (by decide) (hU _ wd_105) (fun _ h9 => h9) rfl dX4_copyFrom_65 ?_
  obtain ⟨g_148, hfo_147, hbg_148⟩ := un_22 (hG _ ma_142) ka_142
  refine tk_alenP (v := 20) hx hb hK hP 0 ma_142 hfo_147 rfl rfl dX4_copyFrom_68 ?_
  obtain ⟨g_150, hfo_149, hbg_150⟩ := un_22 (hG _ ma_130) ka_130
  refine tk_copyP hx hb (by rw [hml]; exact hl.1.symm) hown (hU _ wd_539) (hU _ wd_253) (hU _ wd_254) (hU _ wd_255) hK hP hD hS 0 ma_130 ma_142 hfo_149 hfo_147 rfl (by decide) (by decide) (by decide) (by decide) (by decide) (Nat.le_of_ble_eq_true rfl) (Nat.le_of_ble_eq_true rfl) dX4_copyFrom_69 (fun H locs hP hD hS => ?_)
  obtain ⟨f_151, ef_151⟩ : ∃ y : Nat → va_E, y = va_up f_122 a_142 (.inl (cI, 20, .inl (va_cpy g_150 g_148 (Int32.toNatClampNeg 0) (Int32.toNatClampNeg 0) (Int32.toNatClampNeg 20)))) := ⟨_, rfl⟩
  have hP : va_P (dC, dI) vwCl (va_pl L f_151) H := by rw [ef_151]; exact hP
  have hD : va_D (fun q => q ∈ L) (va_pl L f_151) := by rw [ef_151]; exact hD
  have hG : GI (okc cI cL cZ cR L kd) kd L f_151 := by rw [ef_151]; exact hG.set a_142 (mk_22 ka_142 ⟨_, rfl, okI_cpy (fun j => by have := hbg_150 j; constructor <;> omega) hbg_148 _ _ _⟩)
  have hfo_152 : f_151 o1 = .inr (4, [.int v_124, .int v_125, .int v_126, .int v_127, .ref a_128, .ref a_129, .ref a_130, .ref a_131, .int v_132, .int v_133, .int v_134]) := by rw [ef_151, up_ne (kd_ne ka_142 ko1 (by decide))]; exact hfo_123
  have hfo_153 : f_151 o0 = .inr (4, [.int v_136, .int v_137, .int v_138, .int v_139, .ref a_140, .ref a_141, .ref a_142, .ref a_143, .int v_144, .int v_145, .int v_146]) := by rw [ef_151, up_ne (kd_ne ka_142 ko0 (by decide))]; exact hfo_135
  have hfo_154 : f_151 a_142 = .inl (cI, 20, .inl (va_cpy g_150 g_148 (Int32.toNatClampNeg 0) (Int32.toNatClampNeg 0) (Int32.toNatClampNeg 20))) := by rw [ef_151]; exact up_self
  refine lv_aload_n hx hb dX4_copyFrom_72 rfl (lv_at hl 1 rfl) ?_
  refine tk_getP (D := (dC, dI)) (ci := 4) (v := .ref a_131) (C := RX4) (T := TX4) (N := 11) hx hb hU inlX4 hown hK hP mo1 hfo_152 rfl 7 (by decide) (hU _ wd_106) (fun _ h9 => h9) rfl dX4_copyFrom_73 ?_
  refine lv_iconst (v := 0) hx hb dX4_copyFrom_76 (by decide) ?_
  refine lv_aload_n hx hb dX4_copyFrom_77 rfl (lv_at hl 0 rfl) ?_
  refine tk_getP (D := (dC, dI)) (ci := 4) (v := .ref a_143) (C := RX4) (T := TX4) (N := 11) hx hb hU inlX4 hown hK hP mo0 hfo_153 rfl 7 (by decide) (hU _ wd_106) (fun _ h9 => h9) rfl dX4_copyFrom_78 ?_
  refine lv_iconst (v := 0) hx hb dX4_copyFrom_81 (by decide) ?_
  refine lv_aload_n hx hb dX4_copyFrom_82 rfl (lv_at hl 0 rfl) ?_
  refine tk_getP (D := (dC, dI)) (ci := 4) (v := .ref a_143) (C := RX4) (T := TX4) (N := 11) hx hb hU inlX4 hown hK hP mo0 hfo_153 rfl 7 (by decide) (hU _ wd_106) (fun _ h9 => h9) rfl dX4_copyFrom_83 ?_
  obtain ⟨g_156, hfo_155, hbg_156⟩ := un_23 (hG _ ma_143) ka_143
  refine tk_alenP (v := 8) hx hb hK hP 0 ma_143 hfo_155 rfl rfl dX4_copyFrom_86 ?_
  obtain ⟨g_158, hfo_157, hbg_158⟩ := un_23 (hG _ ma_131) ka_131
  refine tk_copyP hx hb (by rw [hml]; exact hl.1.symm) hown (hU _ wd_539) (hU _ wd_253) (hU _ wd_254) (hU _ wd_255) hK hP hD hS 0 ma_131 ma_143 hfo_157 hfo_155 rfl (by decide) (by decide) (by decide) (by decide) (by decide) (Nat.le_of_ble_eq_true rfl) (Nat.le_of_ble_eq_true rfl) dX4_copyFrom_87 (fun H locs hP hD hS => ?_)
  obtain ⟨f_159, ef_159⟩ : ∃ y : Nat → va_E, y = va_up f_151 a_143 (.inl (cI, 8, .inl (va_cpy g_158 g_156 (Int32.toNatClampNeg 0) (Int32.toNatClampNeg 0) (Int32.toNatClampNeg 8)))) := ⟨_, rfl⟩
  have hP : va_P (dC, dI) vwCl (va_pl L f_159) H := by rw [ef_159]; exact hP
  have hD : va_D (fun q => q ∈ L) (va_pl L f_159) := by rw [ef_159]; exact hD
  have hG : GI (okc cI cL cZ cR L kd) kd L f_159 := by rw [ef_159]; exact hG.set a_143 (mk_23 ka_143 ⟨_, rfl, okI_cpy (fun j => by have := hbg_158 j; constructor <;> omega) hbg_156 _ _ _⟩)
  have hfo_160 : f_159 o1 = .inr (4, [.int v_124, .int v_125, .int v_126, .int v_127, .ref a_128, .ref a_129, .ref a_130, .ref a_131, .int v_132, .int v_133, .int v_134]) := by rw [ef_159, up_ne (kd_ne ka_143 ko1 (by decide))]; exact hfo_152
  have hfo_161 : f_159 o0 = .inr (4, [.int v_136, .int v_137, .int v_138, .int v_139, .ref a_140, .ref a_141, .ref a_142, .ref a_143, .int v_144, .int v_145, .int v_146]) := by rw [ef_159, up_ne (kd_ne ka_143 ko0 (by decide))]; exact hfo_153
  have hfo_162 : f_159 a_143 = .inl (cI, 8, .inl (va_cpy g_158 g_156 (Int32.toNatClampNeg 0) (Int32.toNatClampNeg 0) (Int32.toNatClampNeg 8))) := by rw [ef_159]; exact up_self
  refine lv_aload_n hx hb dX4_copyFrom_90 rfl (lv_at hl 0 rfl) ?_
  refine lv_aload_n hx hb dX4_copyFrom_91 rfl (lv_at hl 1 rfl) ?_
  refine tk_getP (D := (dC, dI)) (ci := 4) (v := .int v_132) (C := RX4) (T := TX4) (N := 11) hx hb hU inlX4 hown hK hP mo1 hfo_160 rfl 8 (by decide) (hU _ wd_493) (fun _ h9 => h9) rfl dX4_copyFrom_92 ?_
  refine tk_putP (D := (dC, dI)) (ci := 4) (v := .int v_132) (ty := .int) (C := RX4) (T := TX4) (N := 11) hx hb hU inlX4 tyX4 tyX4_ok nmX4 hown hK hP hD hS mo0 hfo_161 rfl 8 (by decide) (hU _ wd_493) (fun _ h9 => h9) rfl (by decide +kernel) rfl rfl (Nat.le_of_ble_eq_true rfl) dX4_copyFrom_95 (fun H locs hP hD hS => ?_)
  obtain ⟨f_163, ef_163⟩ : ∃ y : Nat → va_E, y = va_up f_159 o0 (.inr (4, [.int v_136, .int v_137, .int v_138, .int v_139, .ref a_140, .ref a_141, .ref a_142, .ref a_143, .int v_132, .int v_145, .int v_146])) := ⟨_, rfl⟩
  have hP : va_P (dC, dI) vwCl (va_pl L f_163) H := by rw [ef_163]; exact hP
  have hD : va_D (fun q => q ∈ L) (va_pl L f_163) := by rw [ef_163]; exact hD
  have hG : GI (okc cI cL cZ cR L kd) kd L f_163 := by rw [ef_163]; exact hG.set o0 (mk_4 ko0 ⟨v_136, v_137, v_138, v_139, a_140, a_141, a_142, a_143, v_132, v_145, v_146, rfl, (by constructor <;> omega), (by constructor <;> omega), (by constructor <;> omega), (by constructor <;> omega), ⟨ma_140, ka_140⟩, ⟨ma_141, ka_141⟩, ⟨ma_142, ka_142⟩, ⟨ma_143, ka_143⟩⟩)
  have hfo_164 : f_163 o0 = .inr (4, [.int v_136, .int v_137, .int v_138, .int v_139, .ref a_140, .ref a_141, .ref a_142, .ref a_143, .int v_132, .int v_145, .int v_146]) := by rw [ef_163]; exact up_self
  refine lv_aload_n hx hb dX4_copyFrom_98 rfl (lv_at hl 0 rfl) ?_
  refine lv_aload_n hx hb dX4_copyFrom_99 rfl (lv_at hl 1 rfl) ?_
  obtain ⟨v_166, v_167, v_168, v_169, a_170, a_171, a_172, a_173, v_174, v_175, v_176, hfo_165, bv_166, bv_167, bv_168, bv_169, ⟨ma_170, ka_170⟩, ⟨ma_171, ka_171⟩, ⟨ma_172, ka_172⟩, ⟨ma_173, ka_173⟩⟩ := un_4 (hG _ mo1) ko1
  have bv_174 : ((-2147483648) ≤ v_174.toInt ∧ v_174.toInt ≤ 2147483647) := ⟨i32_lo _, i32_hi _⟩
  have bv_175 : ((-2147483648) ≤ v_175.toInt ∧ v_175.toInt ≤ 2147483647) := ⟨i32_lo _, i32_hi _⟩
  have bv_176 : ((-2147483648) ≤ v_176.toInt ∧ v_176.toInt ≤ 2147483647) := ⟨i32_lo _, i32_hi _⟩
  refine tk_getP (D := (dC, dI)) (ci := 4) (v := .int v_175) (C := RX4) (T := TX4) (N := 11) hx hb hU inlX4 hown hK hP mo1 hfo_165 rfl 9 (by decide) (hU _ wd_494) (fun _ h9 => h9) rfl dX4_copyFrom_100 ?_
  refine tk_putP (D := (dC, dI)) (ci := 4) (v := .int v_175) (ty := .int) (C := RX4) (T := TX4) (N := 11) hx hb hU inlX4 tyX4 tyX4_ok nmX4 hown hK hP hD hS mo0 hfo_164 rfl 9 (by decide) (hU _ wd_494) (fun _ h9 => h9) rfl (by decide +kernel) rfl rfl (Nat.le_of_ble_eq_true rfl) dX4_copyFrom_103 (fun H locs hP hD hS => ?_)
  obtain ⟨f_177, ef_177⟩ : ∃ y : Nat → va_E, y = va_up f_163 o0 (.inr (4, [.int v_136, .int v_137, .int v_138, .int v_139, .ref a_140, .ref a_141, .ref a_142, .ref a_143, .int v_132, .int v_175, .int v_146])) := ⟨_, rfl⟩
  have hP : va_P (dC, dI) vwCl (va_pl L f_177) H := by rw [ef_177]; exact hP
  have hD : va_D (fun q => q ∈ L) (va_pl L f_177) := by rw [ef_177]; exact hD
  have hG : GI (okc cI cL cZ cR L kd) kd L f_177 := by rw [ef_177]; exact hG.set o0 (mk_4 ko0 ⟨v_136, v_137, v_138, v_139, a_140, a_141, a_142, a_143, v_132, v_175, v_146, rfl, (by constructor <;> omega), (by constructor <;> omega), (by constructor <;> omega), (by constructor <;> omega), ⟨ma_140, ka_140⟩, ⟨ma_141, ka_141⟩, ⟨ma_142, ka_142⟩, ⟨ma_143, ka_143⟩⟩)
  have hfo_178 : f_177 o0 = .inr (4, [.int v_136, .int v_137, .int v_138, .int v_139, .ref a_140, .ref a_141, .ref a_142, .ref a_143, .int v_132, .int v_175, .int v_146]) := by rw [ef_177]; exact up_self
  refine lv_aload_n hx hb dX4_copyFrom_106 rfl (lv_at hl 0 rfl) ?_
  refine lv_aload_n hx hb dX4_copyFrom_107 rfl (lv_at hl 1 rfl) ?_
  obtain ⟨v_180, v_181, v_182, v_183, a_184, a_185, a_186, a_187, v_188, v_189, v_190, hfo_179, bv_180, bv_181, bv_182, bv_183, ⟨ma_184, ka_184⟩, ⟨ma_185, ka_185⟩, ⟨ma_186, ka_186⟩, ⟨ma_187, ka_187⟩⟩ := un_4 (hG _ mo1) ko1
  have bv_188 : ((-2147483648) ≤ v_188.toInt ∧ v_188.toInt ≤ 2147483647) := ⟨i32_lo _, i32_hi _⟩
  have bv_189 : ((-2147483648) ≤ v_189.toInt ∧ v_189.toInt ≤ 2147483647) := ⟨i32_lo _, i32_hi _⟩
  have bv_190 : ((-2147483648) ≤ v_190.toInt ∧ v_190.toInt ≤ 2147483647) := ⟨i32_lo _, i32_hi _⟩
  refine tk_getP (D := (dC, dI)) (ci := 4) (v := .int v_190) (C := RX4) (T := TX4) (N := 11) hx hb hU inlX4 hown hK hP mo1 hfo_179 rfl 10 (by decide) (hU _ wd_495) (fun _ h9 => h9) rfl dX4_copyFrom_108 ?_
  refine tk_putP (D := (dC, dI)) (ci := 4) (v := .int v_190) (ty := .int) (C := RX4) (T := TX4) (N := 11) hx hb hU inlX4 tyX4 tyX4_ok nmX4 hown hK hP hD hS mo0 hfo_178 rfl 10 (by decide) (hU _ wd_495) (fun _ h9 => h9) rfl (by decide +kernel) rfl rfl (Nat.le_of_ble_eq_true rfl) dX4_copyFrom_111 (fun H locs hP hD hS => ?_)
  obtain ⟨f_191, ef_191⟩ : ∃ y : Nat → va_E, y = va_up f_177 o0 (.inr (4, [.int v_136, .int v_137, .int v_138, .int v_139, .ref a_140, .ref a_141, .ref a_142, .ref a_143, .int v_132, .int v_175, .int v_190])) := ⟨_, rfl⟩
  have hP : va_P (dC, dI) vwCl (va_pl L f_191) H := by rw [ef_191]; exact hP
  have hD : va_D (fun q => q ∈ L) (va_pl L f_191) := by rw [ef_191]; exact hD
  have hG : GI (okc cI cL cZ cR L kd) kd L f_191 := by rw [ef_191]; exact hG.set o0 (mk_4 ko0 ⟨v_136, v_137, v_138, v_139, a_140, a_141, a_142, a_143, v_132, v_175, v_190, rfl, (by constructor <;> omega), (by constructor <;> omega), (by constructor <;> omega), (by constructor <;> omega), ⟨ma_140, ka_140⟩, ⟨ma_141, ka_141⟩, ⟨ma_142, ka_142⟩, ⟨ma_143, ka_143⟩⟩)
  have hfo_192 : f_191 o0 = .inr (4, [.int v_136, .int v_137, .int v_138, .int v_139, .ref a_140, .ref a_141, .ref a_142, .ref a_143, .int v_132, .int v_175, .int v_190]) := by rw [ef_191]; exact up_self
  exact W.vret hx hb hr (fun t ht hW => ⟨⟨f_191, rfl, hG, by rw [ht]; exact hP, va_K.moved hW.alike hK, pl_in hD⟩, hS.F ht⟩) hS.2.2 dX4_copyFrom_114
