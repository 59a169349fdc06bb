set_option maxHeartbeats 8000000 in
set_option maxRecDepth 100000 in
theorem s_X0_wordCount_k0 (l : Launch) (D : va_G) (cI cL cZ cR : ClassId) (kd : Nat → Nat) (L : List Nat) (f : Nat → va_E) (hG : GI (okc cI cL cZ cR L kd) kd L f) (o0 : Nat) (mo0 : o0 ∈ L) (ko0 : kd o0 = 0) (p1 : Int32) (bp1 : (0 ≤ p1.toInt ∧ p1.toInt ≤ 8)) : mPI l D cI cL cZ cR yX0_wordCount cX0_wordCount 2 (some .int) 0 0 [.ref o0, .int p1] L f (fun (r : Int32) (f9 : Nat → va_E) => GI (okc cI cL cZ cR L kd) kd L f9 ∧ (0 ≤ r.toInt ∧ r.toInt ≤ 72)) := by
  obtain ⟨dC, dI⟩ := D
  refine Met.ofW (cc := cX0_wordCount) (maxL := 2) (ret := (some .int)) (by decide) rfl ?_
  intro p e s m args below meth c s₁ B hml hv
  obtain ⟨rfl, hP, hK, hD0, hN⟩ := hv
  have hx := B.exec
  have hb := B.bytes
  have hr := B.returns
  have hU : ∀ w ∈ wsU, w.before _ s = true := fun w h => atoms_spec (ws := wU yX0_wordCount cX0_wordCount 2 (some .int)) B.pre w (List.mem_cons_of_mem _ h)
  have hown : s.vm.findClass RX0 = some m.cls := findClass_of_methodNamed B.named
  have hlocks := B.notSynchronized
  have hD := pl_in hD0
  have hS : va_S (fun q => q ∈ L) s.heap s.heap [] := va_S.rf
  have hl := lv_entry ([.ref o0, .int p1]) (n := 2) (Nat.le_of_ble_eq_true rfl)
  rw [lg_entry_eq]
  generalize (lg_sl ([.ref o0, .int p1]) ++ List.replicate (2 - (lg_sl ([.ref o0, .int p1])).length) Slot.unset).toArray = ls at hl ⊢
  have hl : lv_has ls 2 [(0, .ref o0), (1, .int p1)] := hl
  refine lv_aload_n hx hb dX0_wordCount_0 rfl (lv_at hl 0 rfl) ?_
  obtain ⟨a_2, a_3, a_4, v_5, a_6, a_7, a_8, v_9, a_10, v_11, v_12, hfo_1, ⟨ma_2, ka_2⟩, ⟨ma_3, ka_3⟩, ⟨ma_4, ka_4⟩, bv_5, ⟨ma_6, ka_6⟩, ⟨ma_7, ka_7⟩, ⟨ma_8, ka_8⟩, ⟨ma_10, ka_10⟩⟩ := un_0 (hG _ mo0) ko0
  have bv_9 : ((-2147483648) ≤ v_9.toInt ∧ v_9.toInt ≤ 2147483647) := ⟨i32_lo _, i32_hi _⟩
  have bv_11 : ((-2147483648) ≤ v_11.toInt ∧ v_11.toInt ≤ 2147483647) := ⟨i32_lo _, i32_hi _⟩
  have bv_12 : ((-2147483648) ≤ v_12.toInt ∧ v_12.toInt ≤ 2147483647) := ⟨i32_lo _, i32_hi _⟩
  refine tk_getP (D := (dC, dI)) (ci := 0) (v := .int v_11) (C := RX0) (T := TX0) (N := 11) hx hb hU inlX0 hown hK hP mo0 hfo_1 rfl 9 (by decide) (hU _ wd_1194) (fun _ h9 => h9) rfl dX0_wordCount_1 ?_
  refine lv_iconst (v := 2) hx hb dX0_wordCount_4 (by decide) ?_
  refine lv_icmp_ne (tgt := 16) hx hb dX0_wordCount_5 (by decide) (fun c_13 => ?_) (fun c_13 => ?_)
  · skip
    rw [← Int32.toInt_inj, ti_2] at c_13
    refine lv_iload_n hx hb dX0_wordCount_16 rfl (lv_at hl 1 rfl) ?_
    exact W.iret (v := p1) hx hb hr (fun t ht hW => ⟨⟨p1, f, rfl, ⟨hG, (by constructor <;> omega)⟩, by rw [ht]; exact hP, va_K.moved hW.alike hK, pl_in hD⟩, hS.F ht⟩) hS.2.2 dX0_wordCount_17
  · skip
    rw [← Int32.toInt_inj, ti_2] at c_13
    refine lv_iload_n hx hb dX0_wordCount_8 rfl (lv_at hl 1 rfl) ?_
    refine lv_iload_n hx hb dX0_wordCount_9 rfl (lv_at hl 1 rfl) ?_
    refine lv_iload_n hx hb dX0_wordCount_10 rfl (lv_at hl 1 rfl) ?_
    refine lv_imul hx hb dX0_wordCount_11 ?_
    refine lv_topi (fun x_14 ex_14 => ?_)
    have bx_14 : (0 ≤ x_14.toInt ∧ x_14.toInt ≤ 64) := by rw [ex_14]; exact ml_B (a := 8) (b := 8) (by constructor <;> omega) (by constructor <;> omega) (by decide)
    refine lv_iadd hx hb dX0_wordCount_12 ?_
    refine lv_topi (fun x_15 ex_15 => ?_)
    have hx_15 : x_15.toInt = p1.toInt + x_14.toInt := by rw [ex_15, ad_I (by omega) (by omega)]
    have bx_15 : (0 ≤ x_15.toInt ∧ x_15.toInt ≤ 72) := by constructor <;> omega
    refine lv_goto (tgt := 17) hx hb dX0_wordCount_13 (by decide) ?_
    exact W.iret (v := x_15) hx hb hr (fun t ht hW => ⟨⟨x_15, f, rfl, ⟨hG, (by constructor <;> omega)⟩, by rw [ht]; exact hP, va_K.moved hW.alike hK, pl_in hD⟩, hS.F ht⟩) hS.2.2 dX0_wordCount_17
set_option maxHeartbeats 8000000 in
set_option maxRecDepth 100000 in
theorem s_X0_numberOf (l : Launch) (D : va_G) (cI cL cZ cR : ClassId) (kd : Nat → Nat) (L : List Nat) (f : Nat → va_E) (hG : GI (okc cI cL cZ cR L kd) kd L f) (p0 : Int32) (bp0 : (0 ≤ p0.toInt ∧ p0.toInt ≤ 8)) (p1 : Int32) (bp1 : (0 ≤ p1.toInt ∧ p1.toInt ≤ 8)) : mPI l D cI cL cZ cR yX0_numberOf cX0_numberOf 2 (some .int) 0 0 [.int p0, .int p1] L f (fun (r : Int32) (f9 : Nat → va_E) => GI (okc cI cL cZ cR L kd) kd L f9 ∧ (0 ≤ r.toInt ∧ r.toInt ≤ 72)) := by
  obtain ⟨dC, dI⟩ := D
  refine Met.ofW (cc := cX0_numberOf) (maxL := 2) (ret := (some .int)) (by decide) rfl ?_
  intro p e s m args below meth c s₁ B hml hv
  obtain ⟨rfl, hP, hK, hD0, hN⟩ := hv
  have hx := B.exec
  have hb := B.bytes
  have hr := B.returns
  have hU : ∀ w ∈ wsU, w.before _ s = true := fun w h => atoms_spec (ws := wU yX0_numberOf cX0_numberOf 2 (some .int)) B.pre w (List.mem_cons_of_mem _ h)
  have hown : s.vm.findClass RX0 = some m.cls := findClass_of_methodNamed B.named
  have hlocks := B.notSynchronized
  have hD := pl_in hD0
  have hS : va_S (fun q => q ∈ L) s.heap s.heap [] := va_S.rf
  have hl := lv_entry ([.int p0, .int p1]) (n := 2) (Nat.le_of_ble_eq_true rfl)
  rw [lg_entry_eq]
  generalize (lg_sl ([.int p0, .int p1]) ++ List.replicate (2 - (lg_sl ([.int p0, .int p1])).length) Slot.unset).toArray = ls at hl ⊢
  have hl : lv_has ls 2 [(0, .int p0), (1, .int p1)] := hl
  refine lv_iload_n hx hb dX0_numberOf_0 rfl (lv_at hl 0 rfl) ?_
  refine lv_if_ne (tgt := 6) hx hb dX0_numberOf_1 (by decide) (fun c_1 => ?_) (fun c_1 => ?_)
  · skip
    rw [← Int32.toInt_inj, ti_0] at c_1
    refine lv_iload_n hx hb dX0_numberOf_6 rfl (lv_at hl 1 rfl) ?_
    refine lv_if_ne (tgt := 14) hx hb dX0_numberOf_7 (by decide) (fun c_2 => ?_) (fun c_2 => ?_)
    · skip
      rw [← Int32.toInt_inj, ti_0] at c_2
      refine lv_bipush (v := 9) hx hb dX0_numberOf_14 (by decide) ?_
      refine lv_iload_n hx hb dX0_numberOf_16 rfl (lv_at hl 0 rfl) ?_
      refine lv_iconst (v := 1) hx hb dX0_numberOf_17 (by decide) ?_
      refine lv_isub hx hb dX0_numberOf_18 ?_
      refine lv_topi (fun x_3 ex_3 => ?_)
      have hx_3 : x_3.toInt = p0.toInt - 1 := by rw [ex_3, sb_I (by rw [ti_1]; omega) (by rw [ti_1]; omega), ti_1]
      have bx_3 : (0 ≤ x_3.toInt ∧ x_3.toInt ≤ 7) := by constructor <;> omega
      refine lv_bipush (v := 8) hx hb dX0_numberOf_19 (by decide) ?_
      refine lv_imul hx hb dX0_numberOf_21 ?_
      refine lv_topi (fun x_4 ex_4 => ?_)
      have hx_4 : x_4.toInt = x_3.toInt * 8 := by rw [ex_4, ml_I (by rw [ti_8]; omega) (by rw [ti_8]; omega), ti_8]
      have bx_4 : (0 ≤ x_4.toInt ∧ x_4.toInt ≤ 56) := by constructor <;> omega
      refine lv_iadd hx hb dX0_numberOf_22 ?_
      refine lv_topi (fun x_5 ex_5 => ?_)
      have hx_5 : x_5.toInt = 9 + x_4.toInt := by rw [ex_5, ad_I (by rw [ti_9]; omega) (by rw [ti_9]; omega), ti_9]
      have bx_5 : (9 ≤ x_5.toInt ∧ x_5.toInt ≤ 65) := by constructor <;> omega
      refine lv_iload_n hx hb dX0_numberOf_23 rfl (lv_at hl 1 rfl) ?_
      refine lv_iadd hx hb dX0_numberOf_24 ?_
      refine lv_topi (fun x_6 ex_6 => ?_)
      have hx_6 : x_6.toInt = x_5.toInt + p1.toInt := by rw [ex_6, ad_I (by omega) (by omega)]
      have bx_6 : (10 ≤ x_6.toInt ∧ x_6.toInt ≤ 73) := by constructor <;> omega
      refine lv_iconst (v := 1) hx hb dX0_numberOf_25 (by decide) ?_
      refine lv_isub hx hb dX0_numberOf_26 ?_
      refine lv_topi (fun x_7 ex_7 => ?_)
      have hx_7 : x_7.toInt = x_6.toInt - 1 := by rw [ex_7, sb_I (by rw [ti_1]; omega) (by rw [ti_1]; omega), ti_1]
      have bx_7 : (9 ≤ x_7.toInt ∧ x_7.toInt ≤ 72) := by constructor <;> omega
      exact W.iret (v := x_7) hx hb hr (fun t ht hW => ⟨⟨x_7, f, rfl, ⟨hG, (by constructor <;> omega)⟩, by rw [ht]; exact hP, va_K.moved hW.alike hK, pl_in hD⟩, hS.F ht⟩) hS.2.2 dX0_numberOf_27
    · skip
      rw [← Int32.toInt_inj, ti_0] at c_2
      refine lv_iload_n hx hb dX0_numberOf_10 rfl (lv_at hl 0 rfl) ?_
      refine lv_goto (tgt := 27) hx hb dX0_numberOf_11 (by decide) ?_
      exact W.iret (v := p0) hx hb hr (fun t ht hW => ⟨⟨p0, f, rfl, ⟨hG, (by constructor <;> omega)⟩, by rw [ht]; exact hP, va_K.moved hW.alike hK, pl_in hD⟩, hS.F ht⟩) hS.2.2 dX0_numberOf_27
  · skip
    rw [← Int32.toInt_inj, ti_0] at c_1
    refine lv_iconst (v := 0) hx hb dX0_numberOf_4 (by decide) ?_
    exact W.iret (v := 0) hx hb hr (fun t ht hW => ⟨⟨0, f, rfl, ⟨hG, (by decide)⟩, by rw [ht]; exact hP, va_K.moved hW.alike hK, pl_in hD⟩, hS.F ht⟩) hS.2.2 dX0_numberOf_5
set_option maxHeartbeats 8000000 in
set_option maxRecDepth 100000 in
theorem s_X0_judge_k0 (l : Launch) (D : va_G) (cI cL cZ cR : ClassId) (kd : Nat → Nat) (L : List Nat) (f : Nat → va_E) (hG : GI (okc cI cL cZ cR L kd) kd L f) (o0 : Nat) (mo0 : o0 ∈ L) (ko0 : kd o0 = 0) (p1 : Int32) (bp1 : (0 ≤ p1.toInt ∧ p1.toInt ≤ 6)) : mPV l D cI cL cZ cR yX0_judge cX0_judge 4 none 1 40 [.ref o0, .int p1] L f (fun (f9 : Nat → va_E) => GI (okc cI cL cZ cR L kd) kd L f9) := by
  obtain ⟨dC, dI⟩ := D
  refine Met.ofW (cc := cX0_judge) (maxL := 4) (ret := none) (by decide) rfl ?_
  intro p e s m args below meth c s₁ B hml hv
  obtain ⟨rfl, hP, hK, hD0, hN⟩ := hv
  have hx := B.exec
  have hb := B.bytes
  have hr := B.returns
  have hU : ∀ w ∈ wsU, w.before _ s = true := fun w h => atoms_spec (ws := wU yX0_judge cX0_judge 4 none) B.pre w (List.mem_cons_of_mem _ h)
  have hown : s.vm.findClass RX0 = some m.cls := findClass_of_methodNamed B.named
  have hlocks := B.notSynchronized
  have hD := pl_in hD0
  have hS : va_S (fun q => q ∈ L) s.heap s.heap [] := va_S.rf
  have hl := lv_entry ([.ref o0, .int p1]) (n := 4) (Nat.le_of_ble_eq_true rfl)
  rw [lg_entry_eq]
  generalize (lg_sl ([.ref o0, .int p1]) ++ List.replicate (4 - (lg_sl ([.ref o0, .int p1])).length) Slot.unset).toArray = ls at hl ⊢
  have hl : lv_has ls 4 [(0, .ref o0), (1, .int p1)] := hl
  refine lv_iconst (v := 0) hx hb dX0_judge_0 (by decide) ?_
  refine lv_istore_n (lv' := [(2, .int 0), (0, .ref o0), (1, .int p1)]) hx hb dX0_judge_1 rfl hl (by decide) rfl (fun ls hl => ?_)
  refine lv_iconst (v := 0) hx hb dX0_judge_2 (by decide) ?_
  refine lv_istore_n (lv' := [(3, .int 0), (2, .int 0), (0, .ref o0), (1, .int p1)]) hx hb dX0_judge_3 rfl hl (by decide) rfl (fun ls hl => ?_)
  have hloop_9 : ∀ (n : Nat), ∀ (y_7 : Int32), (0 ≤ y_7.toInt ∧ y_7.toInt ≤ 73) → ∀ (y_8 : Int32), ((-2147483648) ≤ y_8.toInt ∧ y_8.toInt ≤ 2147483647) → 73 - y_7.toInt < (n : Int) → ∀ (ls : Array Slot), lv_has ls 4 [(3, .int y_7), (2, .int y_8), (0, .ref o0), (1, .int p1)] → W p l e (headSpec (wU yX0_judge cX0_judge 4 none) { frames := 1, cells := 0, slots := 0, locals := 40 }).room s m [.ref o0, .int p1].toArray below meth c s.heap [] 0 0 (MQ below (va_Qv (fun (f9 : Nat → va_E) => GI (okc cI cL cZ cR L kd) kd L f9) (qP (dC, dI) cI cL cZ cR L) (fun q => q ∈ L)) [.ref o0, .int p1].toArray s 0 0 (fun q => q ∈ L)) (F0 m 4 ls []) := by
    intro n
    induction n with
    | zero => intro y_7 by_7 y_8 by_8 hmuhloop_9 ls hl; exfalso; omega
    | succ n ih_hloop_9 =>
      intro y_7 by_7 y_8 by_8 hmuhloop_9 ls hl
      refine lv_iload_n hx hb dX0_judge_4 rfl (lv_at hl 0 rfl) ?_
      refine lv_bipush (v := 73) hx hb dX0_judge_5 (by decide) ?_
      refine lv_icmp_ge (tgt := 40) hx hb dX0_judge_7 (by decide) (fun c_10 => ?_) (fun c_10 => ?_)
      · skip
        rw [Int32.le_iff_toInt_le, ti_73] at c_10
        refine lv_iload_n hx hb dX0_judge_40 rfl (lv_at hl 1 rfl) ?_
        refine lv_aload_n hx hb dX0_judge_41 rfl (lv_at hl 2 rfl) ?_
        obtain ⟨a_12, a_13, a_14, v_15, a_16, a_17, a_18, v_19, a_20, v_21, v_22, hfo_11, ⟨ma_12, ka_12⟩, ⟨ma_13, ka_13⟩, ⟨ma_14, ka_14⟩, bv_15, ⟨ma_16, ka_16⟩, ⟨ma_17, ka_17⟩, ⟨ma_18, ka_18⟩, ⟨ma_20, ka_20⟩⟩ := un_0 (hG _ mo0) ko0
        have bv_19 : ((-2147483648) ≤ v_19.toInt ∧ v_19.toInt ≤ 2147483647) := ⟨i32_lo _, i32_hi _⟩
        have bv_21 : ((-2147483648) ≤ v_21.toInt ∧ v_21.toInt ≤ 2147483647) := ⟨i32_lo _, i32_hi _⟩
        have bv_22 : ((-2147483648) ≤ v_22.toInt ∧ v_22.toInt ≤ 2147483647) := ⟨i32_lo _, i32_hi _⟩
        refine tk_getP (D := (dC, dI)) (ci := 0) (v := .int v_19) (C := RX0) (T := TX0) (N := 11) hx hb hU inlX0 hown hK hP mo0 hfo_11 rfl 7 (by decide) (hU _ wd_1199) (fun _ h9 => h9) rfl dX0_judge_42 ?_
        have hcut_24 : ∀ (f_23 : Nat → va_E), GI (okc cI cL cZ cR L kd) kd L f_23 → ∀ (H : Heap) (locs : List Loc), va_P (dC, dI) vwCl (va_pl L f_23) H → va_D (fun q => q ∈ L) (va_pl L f_23) → va_S (fun q => q ∈ L) s.heap H locs → ∀ (ls : Array Slot), lv_has ls 4 [(3, .int y_7), (2, .int y_8), (0, .ref o0), (1, .int p1)] → W p l e (headSpec (wU yX0_judge cX0_judge 4 none) { frames := 1, cells := 0, slots := 0, locals := 40 }).room s m [.ref o0, .int p1].toArray below meth c H locs 0 0 (MQ below (va_Qv (fun (f9 : Nat → va_E) => GI (okc cI cL cZ cR L kd) kd L f9) (qP (dC, dI) cI cL cZ cR L) (fun q => q ∈ L)) [.ref o0, .int p1].toArray s 0 0 (fun q => q ∈ L)) (F0 m 70 ls []) := by
          intro f_23 hG H locs hP hD hS ls hl
          exact W.vret hx hb hr (fun t ht hW => ⟨⟨f_23, rfl, hG, by rw [ht]; exact hP, va_K.moved hW.alike hK, pl_in hD⟩, hS.F ht⟩) hS.2.2 dX0_judge_70
        refine lv_icmp_le (tgt := 70) hx hb dX0_judge_45 (by decide) (fun c_25 => ?_) (fun c_25 => ?_)
        · skip
          rw [Int32.le_iff_toInt_le] at c_25
          exact hcut_24 f hG _ _ hP hD hS ls (lv_sub hl [0, 1, 2, 3] rfl)
        · skip
          rw [Int32.le_iff_toInt_le] at c_25
          refine lv_aload_n hx hb dX0_judge_48 rfl (lv_at hl 2 rfl) ?_
          refine lv_iload_n hx hb dX0_judge_49 rfl (lv_at hl 1 rfl) ?_
          refine tk_putP (D := (dC, dI)) (ci := 0) (v := .int y_8) (ty := .int) (C := RX0) (T := TX0) (N := 11) hx hb hU inlX0 tyX0 tyX0_ok nmX0 hown hK hP hD hS mo0 hfo_11 rfl 7 (by decide) (hU _ wd_1199) (fun _ h9 => h9) rfl (by decide +kernel) rfl rfl (Nat.le_of_ble_eq_true rfl) dX0_judge_50 (fun H locs hP hD hS => ?_)
          obtain ⟨f_26, ef_26⟩ : ∃ y : Nat → va_E, y = va_up f o0 (.inr (0, [.ref a_12, .ref a_13, .ref a_14, .int v_15, .ref a_16, .ref a_17, .ref a_18, .int y_8, .ref a_20, .int v_21, .int v_22])) := ⟨_, rfl⟩
          have hP : va_P (dC, dI) vwCl (va_pl L f_26) H := by rw [ef_26]; exact hP
          have hD : va_D (fun q => q ∈ L) (va_pl L f_26) := by rw [ef_26]; exact hD
          have hG : GI (okc cI cL cZ cR L kd) kd L f_26 := by rw [ef_26]; exact hG.set o0 (mk_0 ko0 ⟨a_12, a_13, a_14, v_15, a_16, a_17, a_18, y_8, a_20, v_21, v_22, rfl, ⟨ma_12, ka_12⟩, ⟨ma_13, ka_13⟩, ⟨ma_14, ka_14⟩, (by constructor <;> omega), ⟨ma_16, ka_16⟩, ⟨ma_17, ka_17⟩, ⟨ma_18, ka_18⟩, ⟨ma_20, ka_20⟩⟩)
          have hfo_27 : f_26 o0 = .inr (0, [.ref a_12, .ref a_13, .ref a_14, .int v_15, .ref a_16, .ref a_17, .ref a_18, .int y_8, .ref a_20, .int v_21, .int v_22]) := by rw [ef_26]; exact up_self
          refine lv_aload_n hx hb dX0_judge_53 rfl (lv_at hl 2 rfl) ?_
          refine tk_getP (D := (dC, dI)) (ci := 0) (v := .ref a_16) (C := RX0) (T := TX0) (N := 11) hx hb hU inlX0 hown hK hP mo0 hfo_27 rfl 4 (by decide) (hU _ wd_160) (fun _ h9 => h9) rfl dX0_judge_54 ?_
          refine lv_iconst (v := 0) hx hb dX0_judge_57 (by decide) ?_
          refine lv_aload_n hx hb dX0_judge_58 rfl (lv_at hl 2 rfl) ?_
          refine tk_getP (D := (dC, dI)) (ci := 0) (v := .ref a_18) (C := RX0) (T := TX0) (N := 11) hx hb hU inlX0 hown hK hP mo0 hfo_27 rfl 6 (by decide) (hU _ wd_162) (fun _ h9 => h9) rfl dX0_judge_59 ?_
          refine lv_iconst (v := 0) hx hb dX0_judge_62 (by decide) ?_
          refine lv_aload_n hx hb dX0_judge_63 rfl (lv_at hl 2 rfl) ?_
          refine tk_getP (D := (dC, dI)) (ci := 0) (v := .int v_15) (C := RX0) (T := TX0) (N := 11) hx hb hU inlX0 hown hK hP mo0 hfo_27 rfl 3 (by decide) (hU _ wd_1195) (fun _ h9 => h9) rfl dX0_judge_64 ?_
          obtain ⟨g_29, hfo_28, hbg_29⟩ := un_56 (hG _ ma_16) ka_16
          obtain ⟨g_31, hfo_30, hbg_31⟩ := un_56 (hG _ ma_18) ka_18
          refine tk_copyP hx hb (by rw [hml]; exact hl.1.symm) hown (hU _ wd_1232) (hU _ wd_253) (hU _ wd_254) (hU _ wd_255) hK hP hD hS 0 ma_16 ma_18 hfo_28 hfo_30 rfl (by decide) (by decide) (by rw [Int32.lt_iff_toInt_lt, ti_0]; omega) (cp_ok (by rw [ti_0]; omega) (by omega) (by rw [ti_0]; omega)) (cp_ok (by rw [ti_0]; omega) (by omega) (by rw [ti_0]; omega)) (Nat.le_of_ble_eq_true rfl) (Nat.le_of_ble_eq_true rfl) dX0_judge_67 (fun H locs hP hD hS => ?_)
          obtain ⟨f_32, ef_32⟩ : ∃ y : Nat → va_E, y = va_up f_26 a_18 (.inl (cI, 6, .inl (va_cpy g_29 g_31 (Int32.toNatClampNeg 0) (Int32.toNatClampNeg 0) (Int32.toNatClampNeg v_15)))) := ⟨_, rfl⟩
          have hP : va_P (dC, dI) vwCl (va_pl L f_32) H := by rw [ef_32]; exact hP
          have hD : va_D (fun q => q ∈ L) (va_pl L f_32) := by rw [ef_32]; exact hD
          have hG : GI (okc cI cL cZ cR L kd) kd L f_32 := by rw [ef_32]; exact hG.set a_18 (mk_56 ka_18 ⟨_, rfl, okI_cpy (fun j => by have := hbg_29 j; constructor <;> omega) hbg_31 _ _ _⟩)
          have hfo_33 : f_32 o0 = .inr (0, [.ref a_12, .ref a_13, .ref a_14, .int v_15, .ref a_16, .ref a_17, .ref a_18, .int y_8, .ref a_20, .int v_21, .int v_22]) := by rw [ef_32, up_ne (kd_ne ka_18 ko0 (by decide))]; exact hfo_27
          have hfo_34 : f_32 a_18 = .inl (cI, 6, .inl (va_cpy g_29 g_31 (Int32.toNatClampNeg 0) (Int32.toNatClampNeg 0) (Int32.toNatClampNeg v_15))) := by rw [ef_32]; exact up_self
          exact hcut_24 f_32 hG _ _ hP hD hS ls (lv_sub hl [0, 1, 2, 3] rfl)
      · skip
        rw [Int32.le_iff_toInt_le, ti_73] at c_10
        refine lv_iload_n hx hb dX0_judge_10 rfl (lv_at hl 1 rfl) ?_
        refine lv_aload_n hx hb dX0_judge_11 rfl (lv_at hl 2 rfl) ?_
        obtain ⟨a_36, a_37, a_38, v_39, a_40, a_41, a_42, v_43, a_44, v_45, v_46, hfo_35, ⟨ma_36, ka_36⟩, ⟨ma_37, ka_37⟩, ⟨ma_38, ka_38⟩, bv_39, ⟨ma_40, ka_40⟩, ⟨ma_41, ka_41⟩, ⟨ma_42, ka_42⟩, ⟨ma_44, ka_44⟩⟩ := un_0 (hG _ mo0) ko0
        have bv_43 : ((-2147483648) ≤ v_43.toInt ∧ v_43.toInt ≤ 2147483647) := ⟨i32_lo _, i32_hi _⟩
        have bv_45 : ((-2147483648) ≤ v_45.toInt ∧ v_45.toInt ≤ 2147483647) := ⟨i32_lo _, i32_hi _⟩
        have bv_46 : ((-2147483648) ≤ v_46.toInt ∧ v_46.toInt ≤ 2147483647) := ⟨i32_lo _, i32_hi _⟩
        refine tk_getP (D := (dC, dI)) (ci := 0) (v := .ref a_37) (C := RX0) (T := TX0) (N := 11) hx hb hU inlX0 hown hK hP mo0 hfo_35 rfl 1 (by decide) (hU _ wd_158) (fun _ h9 => h9) rfl dX0_judge_12 ?_
        refine lv_iload_n hx hb dX0_judge_15 rfl (lv_at hl 0 rfl) ?_
        refine lv_bipush (v := 73) hx hb dX0_judge_16 (by decide) ?_
        refine lv_imul hx hb dX0_judge_18 ?_
        refine lv_topi (fun x_47 ex_47 => ?_)
        have hx_47 : x_47.toInt = y_7.toInt * 73 := by rw [ex_47, ml_I (by rw [ti_73]; omega) (by rw [ti_73]; omega), ti_73]
        have bx_47 : (0 ≤ x_47.toInt ∧ x_47.toInt ≤ 5256) := by constructor <;> omega
        refine lv_aload_n hx hb dX0_judge_19 rfl (lv_at hl 2 rfl) ?_
        refine tk_getP (D := (dC, dI)) (ci := 0) (v := .ref a_41) (C := RX0) (T := TX0) (N := 11) hx hb hU inlX0 hown hK hP mo0 hfo_35 rfl 5 (by decide) (hU _ wd_161) (fun _ h9 => h9) rfl dX0_judge_20 ?_
        refine lv_iload_n hx hb dX0_judge_23 rfl (lv_at hl 3 rfl) ?_
        refine lv_bipush (v := 73) hx hb dX0_judge_24 (by decide) ?_
        refine lv_imul hx hb dX0_judge_26 ?_
        refine lv_topi (fun x_48 ex_48 => ?_)
        have hx_48 : x_48.toInt = p1.toInt * 73 := by rw [ex_48, ml_I (by rw [ti_73]; omega) (by rw [ti_73]; omega), ti_73]
        have bx_48 : (0 ≤ x_48.toInt ∧ x_48.toInt ≤ 438) := by constructor <;> omega
        refine lv_iload_n hx hb dX0_judge_27 rfl (lv_at hl 0 rfl) ?_
        refine lv_iadd hx hb dX0_judge_28 ?_
        refine lv_topi (fun x_49 ex_49 => ?_)
        have hx_49 : x_49.toInt = x_48.toInt + y_7.toInt := by rw [ex_49, ad_I (by omega) (by omega)]
        have bx_49 : (0 ≤ x_49.toInt ∧ x_49.toInt ≤ 510) := by constructor <;> omega
        obtain ⟨g_51, hfo_50, hbg_51⟩ := un_57 (hG _ ma_41) ka_41
        refine tk_ildP hx hb hK hP 0 ma_41 hfo_50 rfl (vp_in_iff.mpr (by constructor <;> omega)) dX0_judge_29 ?_
        refine lv_topi (fun x_52 ex_52 => ?_)
        have bx_52 : (0 ≤ x_52.toInt ∧ x_52.toInt ≤ 72) := by rw [ex_52]; exact hbg_51 _
        refine lv_iadd hx hb dX0_judge_30 ?_
        refine lv_topi (fun x_53 ex_53 => ?_)
        have hx_53 : x_53.toInt = x_47.toInt + x_52.toInt := by rw [ex_53, ad_I (by omega) (by omega)]
        have bx_53 : (0 ≤ x_53.toInt ∧ x_53.toInt ≤ 5328) := by constructor <;> omega
        obtain ⟨g_55, hfo_54, hbg_55⟩ := un_55 (hG _ ma_37) ka_37
        refine tk_ildP hx hb hK hP 0 ma_37 hfo_54 rfl (vp_in_iff.mpr (by constructor <;> omega)) dX0_judge_31 ?_
        refine lv_topi (fun x_56 ex_56 => ?_)
        have bx_56 : (0 ≤ x_56.toInt ∧ x_56.toInt ≤ 1) := by rw [ex_56]; exact hbg_55 _
        refine lv_iadd hx hb dX0_judge_32 ?_
        refine lv_topi (fun x_57 ex_57 => ?_)
        have bx_57 : ((-2147483648) ≤ x_57.toInt ∧ x_57.toInt ≤ 2147483647) := ⟨i32_lo _, i32_hi _⟩
        refine lv_istore_n (lv' := [(2, .int x_57), (3, .int y_7), (0, .ref o0), (1, .int p1)]) hx hb dX0_judge_33 rfl hl (by decide) rfl (fun ls hl => ?_)
        obtain ⟨x_58, ex_58⟩ : ∃ y : Int32, y_7 + 1 = y := ⟨_, rfl⟩
        have hx_58 : x_58.toInt = y_7.toInt + 1 := by rw [← ex_58, ad_I (by rw [ti_1]; omega) (by rw [ti_1]; omega), ti_1]
        have bx_58 : (1 ≤ x_58.toInt ∧ x_58.toInt ≤ 73) := by constructor <;> omega
        refine lv_iinc (v := x_58) (lv' := [(3, .int x_58), (2, .int x_57), (0, .ref o0), (1, .int p1)]) hx hb dX0_judge_34 hl (k := 1) rfl ex_58 (by decide) rfl (fun ls hl => ?_)
        refine lv_goto (tgt := 4) hx hb dX0_judge_37 (by decide) ?_
        exact ih_hloop_9 x_58 (by constructor <;> omega) x_57 (by constructor <;> omega) (by omega) ls (lv_sub hl [0, 1, 2, 3] rfl)
  exact hloop_9 74 0 (by decide) 0 (by decide) (by (try simp only [ti_0]); omega) ls hl
set_option maxHeartbeats 8000000 in
set_option maxRecDepth 100000 in
theorem s_X6_restart_k6 (l : Launch) (D : va_G) (cI cL cZ cR : ClassId) (kd : Nat → Nat) (L : List Nat) (f : Nat → va_E) (hG : GI (okc cI cL cZ cR L kd) kd L f) (o0 : Nat) (mo0 : o0 ∈ L) (ko0 : kd o0 = 6) (p1 : Int32) (bp1 : (0 ≤ p1.toInt ∧ p1.toInt ≤ 8)) : mPV l D cI cL cZ cR yX6_restart cX6_restart 3 none 1 20 [.ref o0, .int p1] L f (fun (f9 : Nat → va_E) => GI (okc cI cL cZ cR L kd) kd L f9) := by
  obtain ⟨dC, dI⟩ := D
  refine Met.ofW (cc := cX6_restart) (maxL := 3) (ret := none) (by decide) rfl ?_
  intro p e s m args below meth c s₁ B hml hv
  obtain ⟨rfl, hP, hK, hD0, hN⟩ := hv
  have hx := B.exec
  have hb := B.bytes
  have hr := B.returns
  have hU : ∀ w ∈ wsU, w.before _ s = true := fun w h => atoms_spec (ws := wU yX6_restart cX6_restart 3 none) B.pre w (List.mem_cons_of_mem _ h)
  have hown : s.vm.findClass RX6 = some m.cls := findClass_of_methodNamed B.named
  have hlocks := B.notSynchronized
  have hD := pl_in hD0
  have hS : va_S (fun q => q ∈ L) s.heap s.heap [] := va_S.rf
  have hl := lv_entry ([.ref o0, .int p1]) (n := 3) (Nat.le_of_ble_eq_true rfl)
  rw [lg_entry_eq]
  generalize (lg_sl ([.ref o0, .int p1]) ++ List.replicate (3 - (lg_sl ([.ref o0, .int p1])).length) Slot.unset).toArray = ls at hl ⊢
  have hl : lv_has ls 3 [(0, .ref o0), (1, .int p1)] := hl
  refine lv_aload_n hx hb dX6_restart_0 rfl (lv_at hl 0 rfl) ?_
  refine lv_iconst (v := 1) hx hb dX6_restart_1 (by decide) ?_
  refine lv_iload_n hx hb dX6_restart_2 rfl (lv_at hl 1 rfl) ?_
  refine lv_ishl hx hb dX6_restart_3 ?_
  refine lv_topi (fun x_1 ex_1 => ?_)
  have bx_1 : (1 ≤ x_1.toInt ∧ x_1.toInt ≤ 256) := by rw [ex_1]; exact sh_8 (by constructor <;> omega)
  refine lv_iconst (v := 1) hx hb dX6_restart_4 (by decide) ?_
  refine lv_isub hx hb dX6_restart_5 ?_
  refine lv_topi (fun x_2 ex_2 => ?_)
  have hx_2 : x_2.toInt = x_1.toInt - 1 := by rw [ex_2, sb_I (by rw [ti_1]; omega) (by rw [ti_1]; omega), ti_1]
  have bx_2 : (0 ≤ x_2.toInt ∧ x_2.toInt ≤ 255) := by constructor <;> omega
  obtain ⟨v_4, v_5, a_6, a_7, a_8, v_9, a_10, a_11, a_12, hfo_3, bv_5, ⟨ma_6, ka_6⟩, ⟨ma_7, ka_7⟩, ⟨ma_8, ka_8⟩, ⟨ma_10, ka_10⟩, ⟨ma_11, ka_11⟩, ⟨ma_12, ka_12⟩⟩ := un_6 (hG _ mo0) ko0
  have bv_4 : ((-2147483648) ≤ v_4.toInt ∧ v_4.toInt ≤ 2147483647) := ⟨i32_lo _, i32_hi _⟩
  have bv_9 : ((-2147483648) ≤ v_9.toInt ∧ v_9.toInt ≤ 2147483647) := ⟨i32_lo _, i32_hi _⟩
  refine tk_putP (D := (dC, dI)) (ci := 6) (v := .int x_2) (ty := .int) (C := RX6) (T := TX6) (N := 9) hx hb hU inlX6 tyX6 tyX6_ok nmX6 hown hK hP hD hS mo0 hfo_3 rfl 0 (by decide) (hU _ wd_553) (fun _ h9 => h9) rfl (by decide +kernel) rfl rfl (Nat.le_of_ble_eq_true rfl) dX6_restart_6 (fun H locs hP hD hS => ?_)
  obtain ⟨f_13, ef_13⟩ : ∃ y : Nat → va_E, y = va_up f o0 (.inr (6, [.int x_2, .int v_5, .ref a_6, .ref a_7, .ref a_8, .int v_9, .ref a_10, .ref a_11, .ref a_12])) := ⟨_, rfl⟩
  have hP : va_P (dC, dI) vwCl (va_pl L f_13) H := by rw [ef_13]; exact hP
  have hD : va_D (fun q => q ∈ L) (va_pl L f_13) := by rw [ef_13]; exact hD
  have hG : GI (okc cI cL cZ cR L kd) kd L f_13 := by rw [ef_13]; exact hG.set o0 (mk_6 ko0 ⟨x_2, v_5, a_6, a_7, a_8, v_9, a_10, a_11, a_12, rfl, (by constructor <;> omega), ⟨ma_6, ka_6⟩, ⟨ma_7, ka_7⟩, ⟨ma_8, ka_8⟩, ⟨ma_10, ka_10⟩, ⟨ma_11, ka_11⟩, ⟨ma_12, ka_12⟩⟩)
  have hfo_14 : f_13 o0 = .inr (6, [.int x_2, .int v_5, .ref a_6, .ref a_7, .ref a_8, .int v_9, .ref a_10, .ref a_11, .ref a_12]) := by rw [ef_13]; exact up_self
  refine lv_iconst (v := 0) hx hb dX6_restart_9 (by decide) ?_
  refine lv_istore_n (lv' := [(2, .int 0), (0, .ref o0), (1, .int p1)]) hx hb dX6_restart_10 rfl hl (by decide) rfl (fun ls hl => ?_)
  have hloop_23 : ∀ (n : Nat), ∀ (y_21 : Int32), (0 ≤ y_21.toInt ∧ y_21.toInt ≤ 8) → ∀ (f_22 : Nat → va_E), GI (okc cI cL cZ cR L kd) kd L f_22 → ∀ (H : Heap) (locs : List Loc), va_P (dC, dI) vwCl (va_pl L f_22) H → va_D (fun q => q ∈ L) (va_pl L f_22) → va_S (fun q => q ∈ L) s.heap H locs → (∀ b, kd b ≠ 50 → f_22 b = f_13 b) → 8 - y_21.toInt < (n : Int) → ∀ (ls : Array Slot), lv_has ls 3 [(2, .int y_21), (0, .ref o0), (1, .int p1)] → W p l e (headSpec (wU yX6_restart cX6_restart 3 none) { frames := 1, cells := 0, slots := 0, locals := 20 }).room s m [.ref o0, .int p1].toArray below meth c H locs 0 0 (MQ below (va_Qv (fun (f9 : Nat → va_E) => GI (okc cI cL cZ cR L kd) kd L f9) (qP (dC, dI) cI cL cZ cR L) (fun q => q ∈ L)) [.ref o0, .int p1].toArray s 0 0 (fun q => q ∈ L)) (F0 m 11 ls []) := by
    intro n
    induction n with
    | zero => intro y_21 by_21 f_22 hG H locs hP hD hS hfr_hloop_23 hmuhloop_23 ls hl; exfalso; omega
    | succ n ih_hloop_23 =>
      intro y_21 by_21 f_22 hG H locs hP hD hS hfr_hloop_23 hmuhloop_23 ls hl
      have hfo_24 : f_22 o0 = .inr (6, [.int x_2, .int v_5, .ref a_6, .ref a_7, .ref a_8, .int v_9, .ref a_10, .ref a_11, .ref a_12]) := by rw [hfr_hloop_23 o0 (by rw [ko0]; decide)]; exact hfo_14
      refine lv_iload_n hx hb dX6_restart_11 rfl (lv_at hl 0 rfl) ?_
      refine lv_bipush (v := 8) hx hb dX6_restart_12 (by decide) ?_
      refine lv_icmp_ge (tgt := 30) hx hb dX6_restart_14 (by decide) (fun c_25 => ?_) (fun c_25 => ?_)
      · skip
        rw [Int32.le_iff_toInt_le, ti_8] at c_25
        refine lv_aload_n hx hb dX6_restart_30 rfl (lv_at hl 1 rfl) ?_
        refine tk_getP (D := (dC, dI)) (ci := 6) (v := .ref a_7) (C := RX6) (T := TX6) (N := 9) hx hb hU inlX6 hown hK hP mo0 hfo_24 rfl 3 (by decide) (hU _ wd_139) (fun _ h9 => h9) rfl dX6_restart_31 ?_
        obtain ⟨a_27, a_28, v_29, hfo_26, ⟨ma_27, ka_27⟩, ⟨ma_28, ka_28⟩, bv_29⟩ := un_9 (hG _ ma_7) ka_7
        refine tk_VvP (As := []) (rest := []) (n := 0) hx hb hml hown hU hN (s_X9_clear_k9 l (dC, dI) cI cL cZ cR kd L f_22 hG a_7 ma_7 ka_7) wd_555 wd_270 wd_271 wd_85 wd_272 (by decide +kernel) ⟨Nat.le_of_ble_eq_true rfl, Nat.le_of_ble_eq_true rfl⟩ hK hP hD hS ma_7 hfo_26 9 rfl rfl rfl hl.1 rfl (Nat.le_of_ble_eq_true rfl) dX6_restart_34 ⟨Nat.le_of_ble_eq_true rfl, Nat.le_of_ble_eq_true rfl⟩ (fun f_31 H locs hw hP hD hS => ?_)
        have hG : GI (okc cI cL cZ cR L kd) kd L f_31 := hw
        refine lv_aload_n hx hb dX6_restart_37 rfl (lv_at hl 1 rfl) ?_
        obtain ⟨v_33, v_34, a_35, a_36, a_37, v_38, a_39, a_40, a_41, hfo_32, bv_34, ⟨ma_35, ka_35⟩, ⟨ma_36, ka_36⟩, ⟨ma_37, ka_37⟩, ⟨ma_39, ka_39⟩, ⟨ma_40, ka_40⟩, ⟨ma_41, ka_41⟩⟩ := un_6 (hG _ mo0) ko0
        have bv_33 : ((-2147483648) ≤ v_33.toInt ∧ v_33.toInt ≤ 2147483647) := ⟨i32_lo _, i32_hi _⟩
        have bv_38 : ((-2147483648) ≤ v_38.toInt ∧ v_38.toInt ≤ 2147483647) := ⟨i32_lo _, i32_hi _⟩
        refine tk_getP (D := (dC, dI)) (ci := 6) (v := .ref a_37) (C := RX6) (T := TX6) (N := 9) hx hb hU inlX6 hown hK hP mo0 hfo_32 rfl 4 (by decide) (hU _ wd_140) (fun _ h9 => h9) rfl dX6_restart_38 ?_
        obtain ⟨a_43, a_44, v_45, hfo_42, ⟨ma_43, ka_43⟩, ⟨ma_44, ka_44⟩, bv_45⟩ := un_9 (hG _ ma_37) ka_37
        refine tk_VvP (As := []) (rest := []) (n := 0) hx hb hml hown hU hN (s_X9_clear_k9 l (dC, dI) cI cL cZ cR kd L f_31 hG a_37 ma_37 ka_37) wd_555 wd_270 wd_271 wd_85 wd_272 (by decide +kernel) ⟨Nat.le_of_ble_eq_true rfl, Nat.le_of_ble_eq_true rfl⟩ hK hP hD hS ma_37 hfo_42 9 rfl rfl rfl hl.1 rfl (Nat.le_of_ble_eq_true rfl) dX6_restart_41 ⟨Nat.le_of_ble_eq_true rfl, Nat.le_of_ble_eq_true rfl⟩ (fun f_47 H locs hw hP hD hS => ?_)
        have hG : GI (okc cI cL cZ cR L kd) kd L f_47 := hw
        refine lv_aload_n hx hb dX6_restart_44 rfl (lv_at hl 1 rfl) ?_
        refine lv_iconst (v := 0) hx hb dX6_restart_45 (by decide) ?_
        obtain ⟨v_49, v_50, a_51, a_52, a_53, v_54, a_55, a_56, a_57, hfo_48, bv_50, ⟨ma_51, ka_51⟩, ⟨ma_52, ka_52⟩, ⟨ma_53, ka_53⟩, ⟨ma_55, ka_55⟩, ⟨ma_56, ka_56⟩, ⟨ma_57, ka_57⟩⟩ := un_6 (hG _ mo0) ko0
        have bv_49 : ((-2147483648) ≤ v_49.toInt ∧ v_49.toInt ≤ 2147483647) := ⟨i32_lo _, i32_hi _⟩
        have bv_54 : ((-2147483648) ≤ v_54.toInt ∧ v_54.toInt ≤ 2147483647) := ⟨i32_lo _, i32_hi _⟩
        refine tk_putP (D := (dC, dI)) (ci := 6) (v := .int 0) (ty := .int) (C := RX6) (T := TX6) (N := 9) hx hb hU inlX6 tyX6 tyX6_ok nmX6 hown hK hP hD hS mo0 hfo_48 rfl 5 (by decide) (hU _ wd_554) (fun _ h9 => h9) rfl (by decide +kernel) rfl rfl (Nat.le_of_ble_eq_true rfl) dX6_restart_46 (fun H locs hP hD hS => ?_)
        obtain ⟨f_58, ef_58⟩ : ∃ y : Nat → va_E, y = va_up f_47 o0 (.inr (6, [.int v_49, .int v_50, .ref a_51, .ref a_52, .ref a_53, .int 0, .ref a_55, .ref a_56, .ref a_57])) := ⟨_, rfl⟩
        have hP : va_P (dC, dI) vwCl (va_pl L f_58) H := by rw [ef_58]; exact hP
        have hD : va_D (fun q => q ∈ L) (va_pl L f_58) := by rw [ef_58]; exact hD
        have hG : GI (okc cI cL cZ cR L kd) kd L f_58 := by rw [ef_58]; exact hG.set o0 (mk_6 ko0 ⟨v_49, v_50, a_51, a_52, a_53, 0, a_55, a_56, a_57, rfl, (by constructor <;> omega), ⟨ma_51, ka_51⟩, ⟨ma_52, ka_52⟩, ⟨ma_53, ka_53⟩, ⟨ma_55, ka_55⟩, ⟨ma_56, ka_56⟩, ⟨ma_57, ka_57⟩⟩)
        have hfo_59 : f_58 o0 = .inr (6, [.int v_49, .int v_50, .ref a_51, .ref a_52, .ref a_53, .int 0, .ref a_55, .ref a_56, .ref a_57]) := by rw [ef_58]; exact up_self
        exact W.vret hx hb hr (fun t ht hW => ⟨⟨f_58, rfl, hG, by rw [ht]; exact hP, va_K.moved hW.alike hK, pl_in hD⟩, hS.F ht⟩) hS.2.2 dX6_restart_49
      · skip
        rw [Int32.le_iff_toInt_le, ti_8] at c_25
        refine lv_aload_n hx hb dX6_restart_17 rfl (lv_at hl 1 rfl) ?_
        refine tk_getP (D := (dC, dI)) (ci := 6) (v := .ref a_6) (C := RX6) (T := TX6) (N := 9) hx hb hU inlX6 hown hK hP mo0 hfo_24 rfl 2 (by decide) (hU _ wd_137) (fun _ h9 => h9) rfl dX6_restart_18 ?_
        refine lv_iload_n hx hb dX6_restart_21 rfl (lv_at hl 0 rfl) ?_
        refine lv_iload_n hx hb dX6_restart_22 rfl (lv_at hl 0 rfl) ?_
        obtain ⟨g_61, hfo_60, hbg_61⟩ := un_50 (hG _ ma_6) ka_6
        refine tk_istP hx hb hK hP hD hS 0 ma_6 hfo_60 rfl (vp_in_iff.mpr (by constructor <;> omega)) dX6_restart_23 (fun H locs hP hD hS => ?_)
        obtain ⟨f_62, ef_62⟩ : ∃ y : Nat → va_E, y = va_up f_22 a_6 (.inl (cI, 8, .inl (upd g_61 (Int32.toNatClampNeg y_21) y_21))) := ⟨_, rfl⟩
        have hP : va_P (dC, dI) vwCl (va_pl L f_62) H := by rw [ef_62]; exact hP
        have hD : va_D (fun q => q ∈ L) (va_pl L f_62) := by rw [ef_62]; exact hD
        have hG : GI (okc cI cL cZ cR L kd) kd L f_62 := by rw [ef_62]; exact hG.set a_6 (mk_50 ka_6 ⟨_, rfl, okI_up hbg_61 (by constructor <;> omega) _⟩)
        have hfo_63 : f_62 o0 = .inr (6, [.int x_2, .int v_5, .ref a_6, .ref a_7, .ref a_8, .int v_9, .ref a_10, .ref a_11, .ref a_12]) := by rw [ef_62, up_ne (kd_ne ka_6 ko0 (by decide))]; exact hfo_24
        have hfr_hloop_23 : ∀ b, kd b ≠ 50 → f_62 b = f_13 b := fun b q50 => by rw [ef_62, up_ne (fun e9 => q50 (by rw [e9]; exact ka_6))]; exact hfr_hloop_23 b q50
        have hfo_64 : f_62 a_6 = .inl (cI, 8, .inl (upd g_61 (Int32.toNatClampNeg y_21) y_21)) := by rw [ef_62]; exact up_self
        obtain ⟨x_65, ex_65⟩ : ∃ y : Int32, y_21 + 1 = y := ⟨_, rfl⟩
        have hx_65 : x_65.toInt = y_21.toInt + 1 := by rw [← ex_65, ad_I (by rw [ti_1]; omega) (by rw [ti_1]; omega), ti_1]
        have bx_65 : (1 ≤ x_65.toInt ∧ x_65.toInt ≤ 8) := by constructor <;> omega
        refine lv_iinc (v := x_65) (lv' := [(2, .int x_65), (0, .ref o0), (1, .int p1)]) hx hb dX6_restart_24 hl (k := 0) rfl ex_65 (by decide) rfl (fun ls hl => ?_)
        refine lv_goto (tgt := 11) hx hb dX6_restart_27 (by decide) ?_
        exact ih_hloop_23 x_65 (by constructor <;> omega) f_62 hG _ _ hP hD hS hfr_hloop_23 (by omega) ls (lv_sub hl [0, 1, 2] rfl)
  exact hloop_23 9 0 (by decide) f_13 hG _ _ hP hD hS (fun _ _ => rfl) (by (try simp only [ti_0]); omega) ls hl
set_option maxHeartbeats 8000000 in
set_option maxRecDepth 100000 in
theorem s_X6_copyFrom_k6_k6 (l : Launch) (D : va_G) (cI cL cZ cR : ClassId) (kd : Nat → Nat) (L : List Nat) (f : Nat → va_E) (hG : GI (okc cI cL cZ cR L kd) kd L f) (o0 : Nat) (mo0 : o0 ∈ L) (ko0 : kd o0 = 6) (o1 : Nat) (mo1 : o1 ∈ L) (ko1 : kd o1 = 6) : mPV l D cI cL cZ cR yX6_copyFrom cX6_copyFrom 2 none 2 61 [.ref o0, .ref o1] L f (fun (f9 : Nat → va_E) => GI (okc cI cL cZ cR L kd) kd L f9) := by
  obtain ⟨dC, dI⟩ := D
  refine Met.ofW (cc := cX6_copyFrom) (maxL := 2) (ret := none) (by decide) rfl ?_
  intro p e s m args below meth c s₁ B hml hv
  obtain ⟨rfl, hP, hK, hD0, hN⟩ := hv
  have hx := B.exec
  have hb := B.bytes
  have hr := B.returns
  have hU : ∀ w ∈ wsU, w.before _ s = true := fun w h => atoms_spec (ws := wU yX6_copyFrom cX6_copyFrom 2 none) B.pre w (List.mem_cons_of_mem _ h)
  have hown : s.vm.findClass RX6 = some m.cls := findClass_of_methodNamed B.named
  have hlocks := B.notSynchronized
  have hD := pl_in hD0
  have hS : va_S (fun q => q ∈ L) s.heap s.heap [] := va_S.rf
  have hl := lv_entry ([.ref o0, .ref o1]) (n := 2) (Nat.le_of_ble_eq_true rfl)
  rw [lg_entry_eq]
  generalize (lg_sl ([.ref o0, .ref o1]) ++ List.replicate (2 - (lg_sl ([.ref o0, .ref o1])).length) Slot.unset).toArray = ls at hl ⊢
  have hl : lv_has ls 2 [(0, .ref o0), (1, .ref o1)] := hl
  refine lv_aload_n hx hb dX6_copyFrom_0 rfl (lv_at hl 0 rfl) ?_
  refine lv_aload_n hx hb dX6_copyFrom_1 rfl (lv_at hl 1 rfl) ?_
  obtain ⟨v_2, v_3, a_4, a_5, a_6, v_7, a_8, a_9, a_10, hfo_1, bv_3, ⟨ma_4, ka_4⟩, ⟨ma_5, ka_5⟩, ⟨ma_6, ka_6⟩, ⟨ma_8, ka_8⟩, ⟨ma_9, ka_9⟩, ⟨ma_10, ka_10⟩⟩ := un_6 (hG _ mo1) ko1
  have bv_2 : ((-2147483648) ≤ v_2.toInt ∧ v_2.toInt ≤ 2147483647) := ⟨i32_lo _, i32_hi _⟩
  have bv_7 : ((-2147483648) ≤ v_7.toInt ∧ v_7.toInt ≤ 2147483647) := ⟨i32_lo _, i32_hi _⟩
  refine tk_getP (D := (dC, dI)) (ci := 6) (v := .int v_2) (C := RX6) (T := TX6) (N := 9) hx hb hU inlX6 hown hK hP mo1 hfo_1 rfl 0 (by decide) (hU _ wd_553) (fun _ h9 => h9) rfl dX6_copyFrom_2 ?_
  obtain ⟨v_12, v_13, a_14, a_15, a_16, v_17, a_18, a_19, a_20, hfo_11, bv_13, ⟨ma_14, ka_14⟩, ⟨ma_15, ka_15⟩, ⟨ma_16, ka_16⟩, ⟨ma_18, ka_18⟩, ⟨ma_19, ka_19⟩, ⟨ma_20, ka_20⟩⟩ := un_6 (hG _ mo0) ko0
  have bv_12 : ((-2147483648) ≤ v_12.toInt ∧ v_12.toInt ≤ 2147483647) := ⟨i32_lo _, i32_hi _⟩
  have bv_17 : ((-2147483648) ≤ v_17.toInt ∧ v_17.toInt ≤ 2147483647) := ⟨i32_lo _, i32_hi _⟩
  refine tk_putP (D := (dC, dI)) (ci := 6) (v := .int v_2) (ty := .int) (C := RX6) (T := TX6) (N := 9) hx hb hU inlX6 tyX6 tyX6_ok nmX6 hown hK hP hD hS mo0 hfo_11 rfl 0 (by decide) (hU _ wd_553) (fun _ h9 => h9) rfl (by decide +kernel) rfl rfl (Nat.le_of_ble_eq_true rfl) dX6_copyFrom_5 (fun H locs hP hD hS => ?_)
  obtain ⟨f_21, ef_21⟩ : ∃ y : Nat → va_E, y = va_up f o0 (.inr (6, [.int v_2, .int v_13, .ref a_14, .ref a_15, .ref a_16, .int v_17, .ref a_18, .ref a_19, .ref a_20])) := ⟨_, rfl⟩
  have hP : va_P (dC, dI) vwCl (va_pl L f_21) H := by rw [ef_21]; exact hP
  have hD : va_D (fun q => q ∈ L) (va_pl L f_21) := by rw [ef_21]; exact hD
  have hG : GI (okc cI cL cZ cR L kd) kd L f_21 := by rw [ef_21]; exact hG.set o0 (mk_6 ko0 ⟨v_2, v_13, a_14, a_15, a_16, v_17, a_18, a_19, a_20, rfl, (by constructor <;> omega), ⟨ma_14, ka_14⟩, ⟨ma_15, ka_15⟩, ⟨ma_16, ka_16⟩, ⟨ma_18, ka_18⟩, ⟨ma_19, ka_19⟩, ⟨ma_20, ka_20⟩⟩)
  have hfo_22 : f_21 o0 = .inr (6, [.int v_2, .int v_13, .ref a_14, .ref a_15, .ref a_16, .int v_17, .ref a_18, .ref a_19, .ref a_20]) := by rw [ef_21]; exact up_self
  refine lv_aload_n hx hb dX6_copyFrom_8 rfl (lv_at hl 0 rfl) ?_
  refine lv_aload_n hx hb dX6_copyFrom_9 rfl (lv_at hl 1 rfl) ?_
  obtain ⟨v_24, v_25, a_26, a_27, a_28, v_29, a_30, a_31, a_32, hfo_23, bv_25, ⟨ma_26, ka_26⟩, ⟨ma_27, ka_27⟩, ⟨ma_28, ka_28⟩, ⟨ma_30, ka_30⟩, ⟨ma_31, ka_31⟩, ⟨ma_32, ka_32⟩⟩ := un_6 (hG _ mo1) ko1
  have bv_24 : ((-2147483648) ≤ v_24.toInt ∧ v_24.toInt ≤ 2147483647) := ⟨i32_lo _, i32_hi _⟩
  have bv_29 : ((-2147483648) ≤ v_29.toInt ∧ v_29.toInt ≤ 2147483647) := ⟨i32_lo _, i32_hi _⟩
  refine tk_getP (D := (dC, dI)) (ci := 6) (v := .int v_25) (C := RX6) (T := TX6) (N := 9) hx hb hU inlX6 hown hK hP mo1 hfo_23 rfl 1 (by decide) (hU _ wd_136) (fun _ h9 => h9) rfl dX6_copyFrom_10 ?_
  refine tk_putP (D := (dC, dI)) (ci := 6) (v := .int v_25) (ty := .int) (C := RX6) (T := TX6) (N := 9) hx hb hU inlX6 tyX6 tyX6_ok nmX6 hown hK hP hD hS mo0 hfo_22 rfl 1 (by decide) (hU _ wd_136) (fun _ h9 => h9) rfl (by decide +kernel) rfl rfl (Nat.le_of_ble_eq_true rfl) dX6_copyFrom_13 (fun H locs hP hD hS => ?_)
  obtain ⟨f_33, ef_33⟩ : ∃ y : Nat → va_E, y = va_up f_21 o0 (.inr (6, [.int v_2, .int v_25, .ref a_14, .ref a_15, .ref a_16, .int v_17, .ref a_18, .ref a_19, .ref a_20])) := ⟨_, rfl⟩
  have hP : va_P (dC, dI) vwCl (va_pl L f_33) H := by rw [ef_33]; exact hP
  have hD : va_D (fun q => q ∈ L) (va_pl L f_33) := by rw [ef_33]; exact hD
  have hG : GI (okc cI cL cZ cR L kd) kd L f_33 := by rw [ef_33]; exact hG.set o0 (mk_6 ko0 ⟨v_2, v_25, a_14, a_15, a_16, v_17, a_18, a_19, a_20, rfl, (by constructor <;> omega), ⟨ma_14, ka_14⟩, ⟨ma_15, ka_15⟩, ⟨ma_16, ka_16⟩, ⟨ma_18, ka_18⟩, ⟨ma_19, ka_19⟩, ⟨ma_20, ka_20⟩⟩)
  have hfo_34 : f_33 o0 = .inr (6, [.int v_2, .int v_25, .ref a_14, .ref a_15, .ref a_16, .int v_17, .ref a_18, .ref a_19, .ref a_20]) := by rw [ef_33]; exact up_self
  refine lv_aload_n hx hb dX6_copyFrom_16 rfl (lv_at hl 1 rfl) ?_
  obtain ⟨v_36, v_37, a_38, a_39, a_40, v_41, a_42, a_43, a_44, hfo_35, bv_37, ⟨ma_38, ka_38⟩, ⟨ma_39, ka_39⟩, ⟨ma_40, ka_40⟩, ⟨ma_42, ka_42⟩, ⟨ma_43, ka_43⟩, ⟨ma_44, ka_44⟩⟩ := un_6 (hG _ mo1) ko1
  have bv_36 : ((-2147483648) ≤ v_36.toInt ∧ v_36.toInt ≤ 2147483647) := ⟨i32_lo _, i32_hi _⟩
  have bv_41 : ((-2147483648) ≤ v_41.toInt ∧ v_41.toInt ≤ 2147483647) := ⟨i32_lo _, i32_hi _⟩
  refine tk_getP (D := (dC, dI)) (ci := 6) (v := .ref a_38) (C := RX6) (T := TX6) (N := 9) hx hb hU inlX6 hown hK hP mo1 hfo_35 rfl 2 (by decide) (hU _ wd_137) (fun _ h9 => h9) rfl dX6_copyFrom_17 ?_
  refine lv_iconst (v := 0) hx hb dX6_copyFrom_20 (by decide) ?_
  refine lv_aload_n hx hb dX6_copyFrom_21 rfl (lv_at hl 0 rfl) ?_
  refine tk_getP (D := (dC, dI)) (ci := 6) (v := .ref a_14) (C := RX6) (T := TX6) (N := 9) hx hb hU inlX6 hown hK hP mo0 hfo_34 rfl 2 (by decide) (hU _ wd_137) (fun _ h9 => h9) rfl dX6_copyFrom_22 ?_
  refine lv_iconst (v := 0) hx hb dX6_copyFrom_25 (by decide) ?_
  refine lv_aload_n hx hb dX6_copyFrom_26 rfl (lv_at hl 0 rfl) ?_
  refine tk_getP (D := (dC, dI)) (ci := 6) (v := .ref a_14) (C := RX6) (T := TX6) (N := 9) hx hb hU inlX6 hown hK hP mo0 hfo_34 rfl 2 (by decide) (hU _ wd_137) (fun _ h9 => h9) rfl dX6_copyFrom_27 ?_
  obtain ⟨g_46, hfo_45, hbg_46⟩ := un_50 (hG _ ma_14) ka_14
  refine tk_alenP (v := 8) hx hb hK hP 0 ma_14 hfo_45 rfl rfl dX6_copyFrom_30 ?_
  obtain ⟨g_48, hfo_47, hbg_48⟩ := un_50 (hG _ ma_38) ka_38
  refine tk_copyP hx hb (by rw [hml]; exact hl.1.symm) hown (hU _ wd_1477) (hU _ wd_253) (hU _ wd_254) (hU _ wd_255) hK hP hD hS 0 ma_38 ma_14 hfo_47 hfo_45 rfl (by decide) (by decide) (by decide) (by decide) (by decide) (Nat.le_of_ble_eq_true rfl) (Nat.le_of_ble_eq_true rfl) dX6_copyFrom_31 (fun H locs hP hD hS => ?_)
  obtain ⟨f_49, ef_49⟩ : ∃ y : Nat → va_E, y = va_up f_33 a_14 (.inl (cI, 8, .inl (va_cpy g_48 g_46 (Int32.toNatClampNeg 0) (Int32.toNatClampNeg 0) (Int32.toNatClampNeg 8)))) := ⟨_, rfl⟩
  have hP : va_P (dC, dI) vwCl (va_pl L f_49) H := by rw [ef_49]; exact hP
  have hD : va_D (fun q => q ∈ L) (va_pl L f_49) := by rw [ef_49]; exact hD
  have hG : GI (okc cI cL cZ cR L kd) kd L f_49 := by rw [ef_49]; exact hG.set a_14 (mk_50 ka_14 ⟨_, rfl, okI_cpy (fun j => by have := hbg_48 j; constructor <;> omega) hbg_46 _ _ _⟩)
  have hfo_50 : f_49 o0 = .inr (6, [.int v_2, .int v_25, .ref a_14, .ref a_15, .ref a_16, .int v_17, .ref a_18, .ref a_19, .ref a_20]) := by rw [ef_49, up_ne (kd_ne ka_14 ko0 (by decide))]; exact hfo_34
  have hfo_51 : f_49 o1 = .inr (6, [.int v_36, .int v_37, .ref a_38, .ref a_39, .ref a_40, .int v_41, .ref a_42, .ref a_43, .ref a_44]) := by rw [ef_49, up_ne (kd_ne ka_14 ko1 (by decide))]; exact hfo_35
  have hfo_52 : f_49 a_14 = .inl (cI, 8, .inl (va_cpy g_48 g_46 (Int32.toNatClampNeg 0) (Int32.toNatClampNeg 0) (Int32.toNatClampNeg 8))) := by rw [ef_49]; exact up_self
  refine lv_aload_n hx hb dX6_copyFrom_34 rfl (lv_at hl 0 rfl) ?_
  refine tk_getP (D := (dC, dI)) (ci := 6) (v := .ref a_15) (C := RX6) (T := TX6) (N := 9) hx hb hU inlX6 hown hK hP mo0 hfo_50 rfl 3 (by decide) (hU _ wd_139) (fun _ h9 => h9) rfl dX6_copyFrom_35 ?_
  refine lv_aload_n hx hb dX6_copyFrom_38 rfl (lv_at hl 1 rfl) ?_
  refine tk_getP (D := (dC, dI)) (ci := 6) (v := .ref a_39) (C := RX6) (T := TX6) (N := 9) hx hb hU inlX6 hown hK hP mo1 hfo_51 rfl 3 (by decide) (hU _ wd_139) (fun _ h9 => h9) rfl dX6_copyFrom_39 ?_
  obtain ⟨a_54, a_55, v_56, hfo_53, ⟨ma_54, ka_54⟩, ⟨ma_55, ka_55⟩, bv_56⟩ := un_9 (hG _ ma_15) ka_15
  refine tk_VvP (As := [.ref a_39]) (rest := []) (n := 1) hx hb hml hown hU hN (s_X9_copyFrom_k9_k9 l (dC, dI) cI cL cZ cR kd L f_49 hG a_15 ma_15 ka_15 a_39 ma_39 ka_39) wd_1478 wd_545 wd_546 wd_85 wd_547 (by decide +kernel) ⟨Nat.le_of_ble_eq_true rfl, Nat.le_of_ble_eq_true rfl⟩ hK hP hD hS ma_15 hfo_53 9 rfl rfl rfl hl.1 rfl (Nat.le_of_ble_eq_true rfl) dX6_copyFrom_42 ⟨Nat.le_of_ble_eq_true rfl, Nat.le_of_ble_eq_true rfl⟩ (fun f_58 H locs hw hP hD hS => ?_)
  have hG : GI (okc cI cL cZ cR L kd) kd L f_58 := hw
  refine lv_aload_n hx hb dX6_copyFrom_45 rfl (lv_at hl 0 rfl) ?_
  obtain ⟨v_60, v_61, a_62, a_63, a_64, v_65, a_66, a_67, a_68, hfo_59, bv_61, ⟨ma_62, ka_62⟩, ⟨ma_63, ka_63⟩, ⟨ma_64, ka_64⟩, ⟨ma_66, ka_66⟩, ⟨ma_67, ka_67⟩, ⟨ma_68, ka_68⟩⟩ := un_6 (hG _ mo0) ko0
  have bv_60 : ((-2147483648) ≤ v_60.toInt ∧ v_60.toInt ≤ 2147483647) := ⟨i32_lo _, i32_hi _⟩
  have bv_65 : ((-2147483648) ≤ v_65.toInt ∧ v_65.toInt ≤ 2147483647) := ⟨i32_lo _, i32_hi _⟩
  refine tk_getP (D := (dC, dI)) (ci := 6) (v := .ref a_64) (C := RX6) (T := TX6) (N := 9) hx hb hU inlX6 hown hK hP mo0 hfo_59 rfl 4 (by decide) (hU _ wd_140) (fun _ h9 => h9) rfl dX6_copyFrom_46 ?_
  refine lv_aload_n hx hb dX6_copyFrom_49 rfl (lv_at hl 1 rfl) ?_
  obtain ⟨v_70, v_71, a_72, a_73, a_74, v_75, a_76, a_77, a_78, hfo_69, bv_71, ⟨ma_72, ka_72⟩, ⟨ma_73, ka_73⟩, ⟨ma_74, ka_74⟩, ⟨ma_76, ka_76⟩, ⟨ma_77, ka_77⟩, ⟨ma_78, ka_78⟩⟩ := un_6 (hG _ mo1) ko1
  have bv_70 : ((-2147483648) ≤ v_70.toInt ∧ v_70.toInt ≤ 2147483647) := ⟨i32_lo _, i32_hi _⟩
  have bv_75 : ((-2147483648) ≤ v_75.toInt ∧ v_75.toInt ≤ 2147483647) := ⟨i32_lo _, i32_hi _⟩
  refine tk_getP (D := (dC, dI)) (ci := 6) (v := .ref a_74) (C := RX6) (T := TX6) (N := 9) hx hb hU inlX6 hown hK hP mo1 hfo_69 rfl 4 (by decide) (hU _ wd_140) (fun _ h9 => h9) rfl dX6_copyFrom_50 ?_
  obtain ⟨a_80, a_81, v_82, hfo_79, ⟨ma_80, ka_80⟩, ⟨ma_81, ka_81⟩, bv_82⟩ := un_9 (hG _ ma_64) ka_64
  refine tk_VvP (As := [.ref a_74]) (rest := []) (n := 1) hx hb hml hown hU hN (s_X9_copyFrom_k9_k9 l (dC, dI) cI cL cZ cR kd L f_58 hG a_64 ma_64 ka_64 a_74 ma_74 ka_74) wd_1478 wd_545 wd_546 wd_85 wd_547 (by decide +kernel) ⟨Nat.le_of_ble_eq_true rfl, Nat.le_of_ble_eq_true rfl⟩ hK hP hD hS ma_64 hfo_79 9 rfl rfl rfl hl.1 rfl (Nat.le_of_ble_eq_true rfl) dX6_copyFrom_53 ⟨Nat.le_of_ble_eq_true rfl, Nat.le_of_ble_eq_true rfl⟩ (fun f_84 H locs hw hP hD hS => ?_)
  have hG : GI (okc cI cL cZ cR L kd) kd L f_84 := hw
  refine lv_aload_n hx hb dX6_copyFrom_56 rfl (lv_at hl 0 rfl) ?_
  refine lv_aload_n hx hb dX6_copyFrom_57 rfl (lv_at hl 1 rfl) ?_
  obtain ⟨v_86, v_87, a_88, a_89, a_90, v_91, a_92, a_93, a_94, hfo_85, bv_87, ⟨ma_88, ka_88⟩, ⟨ma_89, ka_89⟩, ⟨ma_90, ka_90⟩, ⟨ma_92, ka_92⟩, ⟨ma_93, ka_93⟩, ⟨ma_94, ka_94⟩⟩ := un_6 (hG _ mo1) ko1
  have bv_86 : ((-2147483648) ≤ v_86.toInt ∧ v_86.toInt ≤ 2147483647) := ⟨i32_lo _, i32_hi _⟩
  have bv_91 : ((-2147483648) ≤ v_91.toInt ∧ v_91.toInt ≤ 2147483647) := ⟨i32_lo _, i32_hi _⟩
  refine tk_getP (D := (dC, dI)) (ci := 6) (v := .int v_91) (C := RX6) (T := TX6) (N := 9) hx hb hU inlX6 hown hK hP mo1 hfo_85 rfl 5 (by decide) (hU _ wd_554) (fun _ h9 => h9) rfl dX6_copyFrom_58 ?_
  obtain ⟨v_96, v_97, a_98, a_99, a_100, v_101, a_102, a_103, a_104, hfo_95, bv_97, ⟨ma_98, ka_98⟩, ⟨ma_99, ka_99⟩, ⟨ma_100, ka_100⟩, ⟨ma_102, ka_102⟩, ⟨ma_103, ka_103⟩, ⟨ma_104, ka_104⟩⟩ := un_6 (hG _ mo0) ko0
  have bv_96 : ((-2147483648) ≤ v_96.toInt ∧ v_96.toInt ≤ 2147483647) := ⟨i32_lo _, i32_hi _⟩
  have bv_101 : ((-2147483648) ≤ v_101.toInt ∧ v_101.toInt ≤ 2147483647) := ⟨i32_lo _, i32_hi _⟩
  refine tk_putP (D := (dC, dI)) (ci := 6) (v := .int v_91) (ty := .int) (C := RX6) (T := TX6) (N := 9) hx hb hU inlX6 tyX6 tyX6_ok nmX6 hown hK hP hD hS mo0 hfo_95 rfl 5 (by decide) (hU _ wd_554) (fun _ h9 => h9) rfl (by decide +kernel) rfl rfl (Nat.le_of_ble_eq_true rfl) dX6_copyFrom_61 (fun H locs hP hD hS => ?_)
  obtain ⟨f_105, ef_105⟩ : ∃ y : Nat → va_E, y = va_up f_84 o0 (.inr (6, [.int v_96, .int v_97, .ref a_98, .ref a_99, .ref a_100, .int v_91, .ref a_102, .ref a_103, .ref a_104])) := ⟨_, rfl⟩
  have hP : va_P (dC, dI) vwCl (va_pl L f_105) H := by rw [ef_105]; exact hP
  have hD : va_D (fun q => q ∈ L) (va_pl L f_105) := by rw [ef_105]; exact hD
  have hG : GI (okc cI cL cZ cR L kd) kd L f_105 := by rw [ef_105]; exact hG.set o0 (mk_6 ko0 ⟨v_96, v_97, a_98, a_99, a_100, v_91, a_102, a_103, a_104, rfl, (by constructor <;> omega), ⟨ma_98, ka_98⟩, ⟨ma_99, ka_99⟩, ⟨ma_100, ka_100⟩, ⟨ma_102, ka_102⟩, ⟨ma_103, ka_103⟩, ⟨ma_104, ka_104⟩⟩)
  have hfo_106 : f_105 o0 = .inr (6, [.int v_96, .int v_97, .ref a_98, .ref a_99, .ref a_100, .int v_91, .ref a_102, .ref a_103, .ref a_104]) := by rw [ef_105]; exact up_self
  exact W.vret hx hb hr (fun t ht hW => ⟨⟨f_105, rfl, hG, by rw [ht]; exact hP, va_K.moved hW.alike hK, pl_in hD⟩, hS.F ht⟩) hS.2.2 dX6_copyFrom_64
set_option maxHeartbeats 8000000 in
set_option maxRecDepth 100000 in
theorem s_X6_moveRule_k6 (l : Launch) (D : va_G) (cI cL cZ cR : ClassId) (kd : Nat → Nat) (L : List Nat) (f : Nat → va_E) (hG : GI (okc cI cL cZ cR L kd) kd L f) (o0 : Nat) (mo0 : o0 ∈ L) (ko0 : kd o0 = 6) (p1 : Int32) (bp1 : (0 ≤ p1.toInt ∧ p1.toInt ≤ 7)) (p2 : Int32) (bp2 : (0 ≤ p2.toInt ∧ p2.toInt ≤ 7)) (p3 : Int32) (bp3 : (0 ≤ p3.toInt ∧ p3.toInt ≤ 8)) : mPV l D cI cL cZ cR yX6_moveRule cX6_moveRule 5 none 0 0 [.ref o0, .int p1, .int p2, .int p3] L f (fun (f9 : Nat → va_E) => GI (okc cI cL cZ cR L kd) kd L f9) := by
  obtain ⟨dC, dI⟩ := D
  refine Met.ofW (cc := cX6_moveRule) (maxL := 5) (ret := none) (by decide) rfl ?_
  intro p e s m args below meth c s₁ B hml hv
  obtain ⟨rfl, hP, hK, hD0, hN⟩ := hv
  have hx := B.exec
  have hb := B.bytes
  have hr := B.returns
  have hU : ∀ w ∈ wsU, w.before _ s = true := fun w h => atoms_spec (ws := wU yX6_moveRule cX6_moveRule 5 none) B.pre w (List.mem_cons_of_mem _ h)
  have hown : s.vm.findClass RX6 = some m.cls := findClass_of_methodNamed B.named
  have hlocks := B.notSynchronized
  have hD := pl_in hD0
  have hS : va_S (fun q => q ∈ L) s.heap s.heap [] := va_S.rf
  have hl := lv_entry ([.ref o0, .int p1, .int p2, .int p3]) (n := 5) (Nat.le_of_ble_eq_true rfl)
  rw [lg_entry_eq]
  generalize (lg_sl ([.ref o0, .int p1, .int p2, .int p3]) ++ List.replicate (5 - (lg_sl ([.ref o0, .int p1, .int p2, .int p3])).length) Slot.unset).toArray = ls at hl ⊢
  have hl : lv_has ls 5 [(0, .ref o0), (1, .int p1), (2, .int p2), (3, .int p3)] := hl
  refine lv_iconst (v := 0) hx hb dX6_moveRule_0 (by decide) ?_
  refine lv_istore (lv' := [(4, .int 0), (0, .ref o0), (1, .int p1), (2, .int p2), (3, .int p3)]) hx hb dX6_moveRule_1 hl (by decide) rfl (fun ls hl => ?_)
  have hloop_9 : ∀ (n : Nat), ∀ (y_7 : Int32), (0 ≤ y_7.toInt ∧ y_7.toInt ≤ 8) → ∀ (f_8 : Nat → va_E), GI (okc cI cL cZ cR L kd) kd L f_8 → ∀ (H : Heap) (locs : List Loc), va_P (dC, dI) vwCl (va_pl L f_8) H → va_D (fun q => q ∈ L) (va_pl L f_8) → va_S (fun q => q ∈ L) s.heap H locs → (∀ b, kd b ≠ 50 → f_8 b = f b) → 8 - y_7.toInt < (n : Int) → ∀ (ls : Array Slot), lv_has ls 5 [(4, .int y_7), (0, .ref o0), (1, .int p1), (2, .int p2), (3, .int p3)] → W p l e (headSpec (wU yX6_moveRule cX6_moveRule 5 none) { frames := 0, cells := 0, slots := 0, locals := 0 }).room s m [.ref o0, .int p1, .int p2, .int p3].toArray below meth c H locs 0 0 (MQ below (va_Qv (fun (f9 : Nat → va_E) => GI (okc cI cL cZ cR L kd) kd L f9) (qP (dC, dI) cI cL cZ cR L) (fun q => q ∈ L)) [.ref o0, .int p1, .int p2, .int p3].toArray s 0 0 (fun q => q ∈ L)) (F0 m 3 ls []) := by
    intro n
    induction n with
    | zero => intro y_7 by_7 f_8 hG H locs hP hD hS hfr_hloop_9 hmuhloop_9 ls hl; exfalso; omega
    | succ n ih_hloop_9 =>
      intro y_7 by_7 f_8 hG H locs hP hD hS hfr_hloop_9 hmuhloop_9 ls hl
      refine lv_iload hx hb dX6_moveRule_3 (lv_at hl 0 rfl) ?_
      refine lv_iload_n hx hb dX6_moveRule_5 rfl (lv_at hl 4 rfl) ?_
      refine lv_icmp_ge (tgt := 47) hx hb dX6_moveRule_6 (by decide) (fun c_10 => ?_) (fun c_10 => ?_)
      · skip
        rw [Int32.le_iff_toInt_le] at c_10
        exact W.vret hx hb hr (fun t ht hW => ⟨⟨f_8, rfl, hG, by rw [ht]; exact hP, va_K.moved hW.alike hK, pl_in hD⟩, hS.F ht⟩) hS.2.2 dX6_moveRule_47
      · skip
        rw [Int32.le_iff_toInt_le] at c_10
        refine lv_aload_n hx hb dX6_moveRule_9 rfl (lv_at hl 1 rfl) ?_
        obtain ⟨v_12, v_13, a_14, a_15, a_16, v_17, a_18, a_19, a_20, hfo_11, bv_13, ⟨ma_14, ka_14⟩, ⟨ma_15, ka_15⟩, ⟨ma_16, ka_16⟩, ⟨ma_18, ka_18⟩, ⟨ma_19, ka_19⟩, ⟨ma_20, ka_20⟩⟩ := un_6 (hG _ mo0) ko0
        have bv_12 : ((-2147483648) ≤ v_12.toInt ∧ v_12.toInt ≤ 2147483647) := ⟨i32_lo _, i32_hi _⟩
        have bv_17 : ((-2147483648) ≤ v_17.toInt ∧ v_17.toInt ≤ 2147483647) := ⟨i32_lo _, i32_hi _⟩
        refine tk_getP (D := (dC, dI)) (ci := 6) (v := .ref a_14) (C := RX6) (T := TX6) (N := 9) hx hb hU inlX6 hown hK hP mo0 hfo_11 rfl 2 (by decide) (hU _ wd_137) (fun _ h9 => h9) rfl dX6_moveRule_10 ?_
        refine lv_iload hx hb dX6_moveRule_13 (lv_at hl 0 rfl) ?_
        obtain ⟨g_22, hfo_21, hbg_22⟩ := un_50 (hG _ ma_14) ka_14
        refine tk_ildP hx hb hK hP 0 ma_14 hfo_21 rfl (vp_in_iff.mpr (by constructor <;> omega)) dX6_moveRule_15 ?_
        refine lv_topi (fun x_23 ex_23 => ?_)
        have bx_23 : (0 ≤ x_23.toInt ∧ x_23.toInt ≤ 7) := by rw [ex_23]; exact hbg_22 _
        refine lv_iload_n hx hb dX6_moveRule_16 rfl (lv_at hl 3 rfl) ?_
        refine lv_icmp_ne (tgt := 41) hx hb dX6_moveRule_17 (by decide) (fun c_24 => ?_) (fun c_24 => ?_)
        · skip
          rw [← Int32.toInt_inj] at c_24
          obtain ⟨x_25, ex_25⟩ : ∃ y : Int32, y_7 + 1 = y := ⟨_, rfl⟩
          have hx_25 : x_25.toInt = y_7.toInt + 1 := by rw [← ex_25, ad_I (by rw [ti_1]; omega) (by rw [ti_1]; omega), ti_1]
          have bx_25 : (1 ≤ x_25.toInt ∧ x_25.toInt ≤ 8) := by constructor <;> omega
          refine lv_iinc (v := x_25) (lv' := [(4, .int x_25), (0, .ref o0), (1, .int p1), (2, .int p2), (3, .int p3)]) hx hb dX6_moveRule_41 hl (k := 0) rfl ex_25 (by decide) rfl (fun ls hl => ?_)
          refine lv_goto (tgt := 3) hx hb dX6_moveRule_44 (by decide) ?_
          exact ih_hloop_9 x_25 (by constructor <;> omega) f_8 hG _ _ hP hD hS hfr_hloop_9 (by omega) ls (lv_sub hl [0, 1, 2, 3, 4] rfl)
        · skip
          rw [← Int32.toInt_inj] at c_24
          refine lv_aload_n hx hb dX6_moveRule_20 rfl (lv_at hl 1 rfl) ?_
          refine tk_getP (D := (dC, dI)) (ci := 6) (v := .ref a_14) (C := RX6) (T := TX6) (N := 9) hx hb hU inlX6 hown hK hP mo0 hfo_11 rfl 2 (by decide) (hU _ wd_137) (fun _ h9 => h9) rfl dX6_moveRule_21 ?_
          refine lv_iload hx hb dX6_moveRule_24 (lv_at hl 0 rfl) ?_
          refine lv_aload_n hx hb dX6_moveRule_26 rfl (lv_at hl 1 rfl) ?_
          refine tk_getP (D := (dC, dI)) (ci := 6) (v := .ref a_14) (C := RX6) (T := TX6) (N := 9) hx hb hU inlX6 hown hK hP mo0 hfo_11 rfl 2 (by decide) (hU _ wd_137) (fun _ h9 => h9) rfl dX6_moveRule_27 ?_
          refine lv_iload_n hx hb dX6_moveRule_30 rfl (lv_at hl 2 rfl) ?_
          refine tk_ildP hx hb hK hP 0 ma_14 hfo_21 rfl (vp_in_iff.mpr (by constructor <;> omega)) dX6_moveRule_31 ?_
          refine lv_topi (fun x_26 ex_26 => ?_)
          have bx_26 : (0 ≤ x_26.toInt ∧ x_26.toInt ≤ 7) := by rw [ex_26]; exact hbg_22 _
          refine tk_istP hx hb hK hP hD hS 0 ma_14 hfo_21 rfl (vp_in_iff.mpr (by constructor <;> omega)) dX6_moveRule_32 (fun H locs hP hD hS => ?_)
          obtain ⟨f_27, ef_27⟩ : ∃ y : Nat → va_E, y = va_up f_8 a_14 (.inl (cI, 8, .inl (upd g_22 (Int32.toNatClampNeg y_7) x_26))) := ⟨_, rfl⟩
          have hP : va_P (dC, dI) vwCl (va_pl L f_27) H := by rw [ef_27]; exact hP
          have hD : va_D (fun q => q ∈ L) (va_pl L f_27) := by rw [ef_27]; exact hD
          have hG : GI (okc cI cL cZ cR L kd) kd L f_27 := by rw [ef_27]; exact hG.set a_14 (mk_50 ka_14 ⟨_, rfl, okI_up hbg_22 (by constructor <;> omega) _⟩)
          have hfo_28 : f_27 o0 = .inr (6, [.int v_12, .int v_13, .ref a_14, .ref a_15, .ref a_16, .int v_17, .ref a_18, .ref a_19, .ref a_20]) := by rw [ef_27, up_ne (kd_ne ka_14 ko0 (by decide))]; exact hfo_11
          have hfr_hloop_9 : ∀ b, kd b ≠ 50 → f_27 b = f b := fun b q50 => by rw [ef_27, up_ne (fun e9 => q50 (by rw [e9]; exact ka_14))]; exact hfr_hloop_9 b q50
          have hfo_29 : f_27 a_14 = .inl (cI, 8, .inl (upd g_22 (Int32.toNatClampNeg y_7) x_26)) := by rw [ef_27]; exact up_self
          refine lv_aload_n hx hb dX6_moveRule_33 rfl (lv_at hl 1 rfl) ?_
          refine tk_getP (D := (dC, dI)) (ci := 6) (v := .ref a_14) (C := RX6) (T := TX6) (N := 9) hx hb hU inlX6 hown hK hP mo0 hfo_28 rfl 2 (by decide) (hU _ wd_137) (fun _ h9 => h9) rfl dX6_moveRule_34 ?_
          refine lv_iload_n hx hb dX6_moveRule_37 rfl (lv_at hl 2 rfl) ?_
          refine lv_iload_n hx hb dX6_moveRule_38 rfl (lv_at hl 3 rfl) ?_
          obtain ⟨g_31, hfo_30, hbg_31⟩ := un_50 (hG _ ma_14) ka_14
          refine tk_istP hx hb hK hP hD hS 0 ma_14 hfo_30 rfl (vp_in_iff.mpr (by constructor <;> omega)) dX6_moveRule_39 (fun H locs hP hD hS => ?_)
          obtain ⟨f_32, ef_32⟩ : ∃ y : Nat → va_E, y = va_up f_27 a_14 (.inl (cI, 8, .inl (upd g_31 (Int32.toNatClampNeg p1) p2))) := ⟨_, rfl⟩
          have hP : va_P (dC, dI) vwCl (va_pl L f_32) H := by rw [ef_32]; exact hP
          have hD : va_D (fun q => q ∈ L) (va_pl L f_32) := by rw [ef_32]; exact hD
          have hG : GI (okc cI cL cZ cR L kd) kd L f_32 := by rw [ef_32]; exact hG.set a_14 (mk_50 ka_14 ⟨_, rfl, okI_up hbg_31 (by constructor <;> omega) _⟩)
          have hfo_33 : f_32 o0 = .inr (6, [.int v_12, .int v_13, .ref a_14, .ref a_15, .ref a_16, .int v_17, .ref a_18, .ref a_19, .ref a_20]) := by rw [ef_32, up_ne (kd_ne ka_14 ko0 (by decide))]; exact hfo_28
          have hfr_hloop_9 : ∀ b, kd b ≠ 50 → f_32 b = f b := fun b q50 => by rw [ef_32, up_ne (fun e9 => q50 (by rw [e9]; exact ka_14))]; exact hfr_hloop_9 b q50
          have hfo_34 : f_32 a_14 = .inl (cI, 8, .inl (upd g_31 (Int32.toNatClampNeg p1) p2)) := by rw [ef_32]; exact up_self
          exact W.vret hx hb hr (fun t ht hW => ⟨⟨f_32, rfl, hG, by rw [ht]; exact hP, va_K.moved hW.alike hK, pl_in hD⟩, hS.F ht⟩) hS.2.2 dX6_moveRule_40
  exact hloop_9 9 0 (by decide) f hG _ _ hP hD hS (fun _ _ => rfl) (by (try simp only [ti_0]); omega) ls hl
set_option maxHeartbeats 8000000 in
set_option maxRecDepth 100000 in
theorem s_X6_openExample_k6 (l : Launch) (D : va_G) (cI cL cZ cR : ClassId) (kd : Nat → Nat) (L : List Nat) (f : Nat → va_E) (hG : GI (okc cI cL cZ cR L kd) kd L f) (o0 : Nat) (mo0 : o0 ∈ L) (ko0 : kd o0 = 6) (p1 : Int32) (bp1 : (0 ≤ p1.toInt ∧ p1.toInt ≤ 1)) : mPV l D cI cL cZ cR yX6_openExample cX6_openExample 2 none 1 20 [.ref o0, .int p1] L f (fun (f9 : Nat → va_E) => GI (okc cI cL cZ cR L kd) kd L f9) := by
  obtain ⟨dC, dI⟩ := D
  refine Met.ofW (cc := cX6_openExample) (maxL := 2) (ret := none) (by decide) rfl ?_
  intro p e s m args below meth c s₁ B hml hv
  obtain ⟨rfl, hP, hK, hD0, hN⟩ := hv
  have hx := B.exec
  have hb := B.bytes
  have hr := B.returns
  have hU : ∀ w ∈ wsU, w.before _ s = true := fun w h => atoms_spec (ws := wU yX6_openExample cX6_openExample 2 none) B.pre w (List.mem_cons_of_mem _ h)
  have hown : s.vm.findClass RX6 = some m.cls := findClass_of_methodNamed B.named
  have hlocks := B.notSynchronized
  have hD := pl_in hD0
  have hS : va_S (fun q => q ∈ L) s.heap s.heap [] := va_S.rf
  have hl := lv_entry ([.ref o0, .int p1]) (n := 2) (Nat.le_of_ble_eq_true rfl)
  rw [lg_entry_eq]
  generalize (lg_sl ([.ref o0, .int p1]) ++ List.replicate (2 - (lg_sl ([.ref o0, .int p1])).length) Slot.unset).toArray = ls at hl ⊢
  have hl : lv_has ls 2 [(0, .ref o0), (1, .int p1)] := hl
  refine lv_iload_n hx hb dX6_openExample_0 rfl (lv_at hl 1 rfl) ?_
  have hcut_2 : ∀ (f_1 : Nat → va_E), GI (okc cI cL cZ cR L kd) kd L f_1 → ∀ (H : Heap) (locs : List Loc), va_P (dC, dI) vwCl (va_pl L f_1) H → va_D (fun q => q ∈ L) (va_pl L f_1) → va_S (fun q => q ∈ L) s.heap H locs → ∀ (ls : Array Slot), lv_has ls 2 [(0, .ref o0), (1, .int p1)] → W p l e (headSpec (wU yX6_openExample cX6_openExample 2 none) { frames := 1, cells := 0, slots := 0, locals := 20 }).room s m [.ref o0, .int p1].toArray below meth c H locs 0 0 (MQ below (va_Qv (fun (f9 : Nat → va_E) => GI (okc cI cL cZ cR L kd) kd L f9) (qP (dC, dI) cI cL cZ cR L) (fun q => q ∈ L)) [.ref o0, .int p1].toArray s 0 0 (fun q => q ∈ L)) (F0 m 22 ls []) := by
    intro f_1 hG H locs hP hD hS ls hl
    refine lv_aload_n hx hb dX6_openExample_22 rfl (lv_at hl 0 rfl) ?_
    obtain ⟨v_4, v_5, a_6, a_7, a_8, v_9, a_10, a_11, a_12, hfo_3, bv_5, ⟨ma_6, ka_6⟩, ⟨ma_7, ka_7⟩, ⟨ma_8, ka_8⟩, ⟨ma_10, ka_10⟩, ⟨ma_11, ka_11⟩, ⟨ma_12, ka_12⟩⟩ := un_6 (hG _ mo0) ko0
    have bv_4 : ((-2147483648) ≤ v_4.toInt ∧ v_4.toInt ≤ 2147483647) := ⟨i32_lo _, i32_hi _⟩
    have bv_9 : ((-2147483648) ≤ v_9.toInt ∧ v_9.toInt ≤ 2147483647) := ⟨i32_lo _, i32_hi _⟩
    refine tk_getP (D := (dC, dI)) (ci := 6) (v := .ref a_7) (C := RX6) (T := TX6) (N := 9) hx hb hU inlX6 hown hK hP mo0 hfo_3 rfl 3 (by decide) (hU _ wd_139) (fun _ h9 => h9) rfl dX6_openExample_23 ?_
    obtain ⟨a_14, a_15, v_16, hfo_13, ⟨ma_14, ka_14⟩, ⟨ma_15, ka_15⟩, bv_16⟩ := un_9 (hG _ ma_7) ka_7
    refine tk_VvP (As := []) (rest := []) (n := 0) hx hb hml hown hU hN (s_X9_open_k9 l (dC, dI) cI cL cZ cR kd L f_1 hG a_7 ma_7 ka_7) wd_1398 wd_474 wd_475 wd_85 wd_476 (by decide +kernel) ⟨Nat.le_of_ble_eq_true rfl, Nat.le_of_ble_eq_true rfl⟩ hK hP hD hS ma_7 hfo_13 9 rfl rfl rfl hl.1 rfl (Nat.le_of_ble_eq_true rfl) dX6_openExample_26 ⟨Nat.le_of_ble_eq_true rfl, Nat.le_of_ble_eq_true rfl⟩ (fun f_18 H locs hw hP hD hS => ?_)
    have hG : GI (okc cI cL cZ cR L kd) kd L f_18 := hw
    refine lv_aload_n hx hb dX6_openExample_29 rfl (lv_at hl 0 rfl) ?_
    obtain ⟨v_20, v_21, a_22, a_23, a_24, v_25, a_26, a_27, a_28, hfo_19, bv_21, ⟨ma_22, ka_22⟩, ⟨ma_23, ka_23⟩, ⟨ma_24, ka_24⟩, ⟨ma_26, ka_26⟩, ⟨ma_27, ka_27⟩, ⟨ma_28, ka_28⟩⟩ := un_6 (hG _ mo0) ko0
    have bv_20 : ((-2147483648) ≤ v_20.toInt ∧ v_20.toInt ≤ 2147483647) := ⟨i32_lo _, i32_hi _⟩
    have bv_25 : ((-2147483648) ≤ v_25.toInt ∧ v_25.toInt ≤ 2147483647) := ⟨i32_lo _, i32_hi _⟩
    refine tk_getP (D := (dC, dI)) (ci := 6) (v := .ref a_24) (C := RX6) (T := TX6) (N := 9) hx hb hU inlX6 hown hK hP mo0 hfo_19 rfl 4 (by decide) (hU _ wd_140) (fun _ h9 => h9) rfl dX6_openExample_30 ?_
    obtain ⟨a_30, a_31, v_32, hfo_29, ⟨ma_30, ka_30⟩, ⟨ma_31, ka_31⟩, bv_32⟩ := un_9 (hG _ ma_24) ka_24
    refine tk_VvP (As := []) (rest := []) (n := 0) hx hb hml hown hU hN (s_X9_open_k9 l (dC, dI) cI cL cZ cR kd L f_18 hG a_24 ma_24 ka_24) wd_1398 wd_474 wd_475 wd_85 wd_476 (by decide +kernel) ⟨Nat.le_of_ble_eq_true rfl, Nat.le_of_ble_eq_true rfl⟩ hK hP hD hS ma_24 hfo_29 9 rfl rfl rfl hl.1 rfl (Nat.le_of_ble_eq_true rfl) dX6_openExample_33 ⟨Nat.le_of_ble_eq_true rfl, Nat.le_of_ble_eq_true rfl⟩ (fun f_34 H locs hw hP hD hS => ?_)
    have hG : GI (okc cI cL cZ cR L kd) kd L f_34 := hw
    exact W.vret hx hb hr (fun t ht hW => ⟨⟨f_34, rfl, hG, by rw [ht]; exact hP, va_K.moved hW.alike hK, pl_in hD⟩, hS.F ht⟩) hS.2.2 dX6_openExample_36
  refine lv_if_eq (tgt := 22) hx hb dX6_openExample_1 (by decide) (fun c_35 => ?_) (fun c_35 => ?_)
  · skip
    rw [← Int32.toInt_inj, ti_0] at c_35
    exact hcut_2 f hG _ _ hP hD hS ls (lv_sub hl [0, 1] rfl)
  · skip
    rw [← Int32.toInt_inj, ti_0] at c_35
    refine lv_aload_n hx hb dX6_openExample_4 rfl (lv_at hl 0 rfl) ?_
    refine lv_dup hx hb dX6_openExample_5 rfl ?_
    obtain ⟨v_37, v_38, a_39, a_40, a_41, v_42, a_43, a_44, a_45, hfo_36, bv_38, ⟨ma_39, ka_39⟩, ⟨ma_40, ka_40⟩, ⟨ma_41, ka_41⟩, ⟨ma_43, ka_43⟩, ⟨ma_44, ka_44⟩, ⟨ma_45, ka_45⟩⟩ := un_6 (hG _ mo0) ko0
    have bv_37 : ((-2147483648) ≤ v_37.toInt ∧ v_37.toInt ≤ 2147483647) := ⟨i32_lo _, i32_hi _⟩
    have bv_42 : ((-2147483648) ≤ v_42.toInt ∧ v_42.toInt ≤ 2147483647) := ⟨i32_lo _, i32_hi _⟩
    refine tk_getP (D := (dC, dI)) (ci := 6) (v := .int v_42) (C := RX6) (T := TX6) (N := 9) hx hb hU inlX6 hown hK hP mo0 hfo_36 rfl 5 (by decide) (hU _ wd_554) (fun _ h9 => h9) rfl dX6_openExample_6 ?_
    refine lv_iconst (v := 1) hx hb dX6_openExample_9 (by decide) ?_
    refine lv_aload_n hx hb dX6_openExample_10 rfl (lv_at hl 0 rfl) ?_
    refine tk_getP (D := (dC, dI)) (ci := 6) (v := .ref a_40) (C := RX6) (T := TX6) (N := 9) hx hb hU inlX6 hown hK hP mo0 hfo_36 rfl 3 (by decide) (hU _ wd_139) (fun _ h9 => h9) rfl dX6_openExample_11 ?_
    obtain ⟨a_47, a_48, v_49, hfo_46, ⟨ma_47, ka_47⟩, ⟨ma_48, ka_48⟩, bv_49⟩ := un_9 (hG _ ma_40) ka_40
    refine tk_getP (D := (dC, dI)) (ci := 9) (v := .int v_49) (C := RX9) (T := TX9) (N := 3) hx hb hU inlX9 hown hK hP ma_40 hfo_46 rfl 2 (by decide) (hU _ wd_1397) (fun _ h9 => h9) rfl dX6_openExample_14 ?_
    refine lv_ishl hx hb dX6_openExample_17 ?_
    refine lv_topi (fun x_50 ex_50 => ?_)
    have bx_50 : ((-2147483648) ≤ x_50.toInt ∧ x_50.toInt ≤ 2147483647) := ⟨i32_lo _, i32_hi _⟩
    refine lv_ior hx hb dX6_openExample_18 ?_
    refine lv_topi (fun x_51 ex_51 => ?_)
    have bx_51 : ((-2147483648) ≤ x_51.toInt ∧ x_51.toInt ≤ 2147483647) := ⟨i32_lo _, i32_hi _⟩
    refine tk_putP (D := (dC, dI)) (ci := 6) (v := .int x_51) (ty := .int) (C := RX6) (T := TX6) (N := 9) hx hb hU inlX6 tyX6 tyX6_ok nmX6 hown hK hP hD hS mo0 hfo_36 rfl 5 (by decide) (hU _ wd_554) (fun _ h9 => h9) rfl (by decide +kernel) rfl rfl (Nat.le_of_ble_eq_true rfl) dX6_openExample_19 (fun H locs hP hD hS => ?_)
    obtain ⟨f_52, ef_52⟩ : ∃ y : Nat → va_E, y = va_up f o0 (.inr (6, [.int v_37, .int v_38, .ref a_39, .ref a_40, .ref a_41, .int x_51, .ref a_43, .ref a_44, .ref a_45])) := ⟨_, rfl⟩
    have hP : va_P (dC, dI) vwCl (va_pl L f_52) H := by rw [ef_52]; exact hP
    have hD : va_D (fun q => q ∈ L) (va_pl L f_52) := by rw [ef_52]; exact hD
    have hG : GI (okc cI cL cZ cR L kd) kd L f_52 := by rw [ef_52]; exact hG.set o0 (mk_6 ko0 ⟨v_37, v_38, a_39, a_40, a_41, x_51, a_43, a_44, a_45, rfl, (by constructor <;> omega), ⟨ma_39, ka_39⟩, ⟨ma_40, ka_40⟩, ⟨ma_41, ka_41⟩, ⟨ma_43, ka_43⟩, ⟨ma_44, ka_44⟩, ⟨ma_45, ka_45⟩⟩)
    have hfo_53 : f_52 a_40 = .inr (9, [.ref a_47, .ref a_48, .int v_49]) := by rw [ef_52, up_ne (kd_ne ko0 ka_40 (by decide))]; exact hfo_46
    have hfo_54 : f_52 o0 = .inr (6, [.int v_37, .int v_38, .ref a_39, .ref a_40, .ref a_41, .int x_51, .ref a_43, .ref a_44, .ref a_45]) := by rw [ef_52]; exact up_self
    exact hcut_2 f_52 hG _ _ hP hD hS ls (lv_sub hl [0, 1] rfl)
