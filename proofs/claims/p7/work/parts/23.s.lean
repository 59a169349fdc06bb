set_option maxHeartbeats 8000000 in
set_option maxRecDepth 100000 in
theorem s_X11_emptyTape_k11 (l : Launch) (D : va_G) (cI cL cZ cR : ClassId) (kd : Nat → Nat) (L : List Nat) (f : Nat → va_E) (hG : GI (okc cI cL cZ cR L kd) kd L f) (o0 : Nat) (mo0 : o0 ∈ L) (ko0 : kd o0 = 11) : mPI l D cI cL cZ cR yX11_emptyTape cX11_emptyTape 2 (some .int) 0 0 [.ref o0] L f (fun (r : Int32) (f9 : Nat → va_E) => GI (okc cI cL cZ cR L kd) kd L f9 ∧ (0 ≤ r.toInt ∧ r.toInt ≤ 600)) := by
  obtain ⟨dC, dI⟩ := D
  refine Met.ofW (cc := cX11_emptyTape) (maxL := 2) (ret := (some .int)) (by decide) rfl ?_
  intro p e s m args below meth c s₁ B hml hv
  obtain ⟨rfl, hP, hK, hD0, hN⟩ := hv
  have hx := B.exec
  have hb := B.bytes
  have hr := B.returns
  have hU : ∀ w ∈ wsU, w.before _ s = true := fun w h => atoms_spec (ws := wU yX11_emptyTape cX11_emptyTape 2 (some .int)) B.pre w (List.mem_cons_of_mem _ h)
  have hown : s.vm.findClass RX11 = some m.cls := findClass_of_methodNamed B.named
  have hlocks := B.notSynchronized
  have hD := pl_in hD0
  have hS : va_S (fun q => q ∈ L) s.heap s.heap [] := va_S.rf
  have hl := lv_entry ([.ref o0]) (n := 2) (Nat.le_of_ble_eq_true rfl)
  rw [lg_entry_eq]
  generalize (lg_sl ([.ref o0]) ++ List.replicate (2 - (lg_sl ([.ref o0])).length) Slot.unset).toArray = ls at hl ⊢
  have hl : lv_has ls 2 [(0, .ref o0)] := hl
  refine lv_aload_n hx hb dX11_emptyTape_0 rfl (lv_at hl 0 rfl) ?_
  obtain ⟨a_2, v_3, a_4, a_5, a_6, a_7, a_8, a_9, v_10, a_11, a_12, a_13, v_14, v_15, a_16, v_17, a_18, a_19, v_20, hfo_1, ⟨ma_2, ka_2⟩, bv_3, ⟨ma_4, ka_4⟩, ⟨ma_5, ka_5⟩, ⟨ma_6, ka_6⟩, ⟨ma_7, ka_7⟩, ⟨ma_8, ka_8⟩, ⟨ma_9, ka_9⟩, bv_10, ⟨ma_11, ka_11⟩, ⟨ma_12, ka_12⟩, ⟨ma_13, ka_13⟩, bv_14, ⟨ma_16, ka_16⟩, bv_17, ⟨ma_18, ka_18⟩, ⟨ma_19, ka_19⟩⟩ := un_11 (hG _ mo0) ko0
  have bv_15 : ((-2147483648) ≤ v_15.toInt ∧ v_15.toInt ≤ 2147483647) := ⟨i32_lo _, i32_hi _⟩
  have bv_20 : ((-2147483648) ≤ v_20.toInt ∧ v_20.toInt ≤ 2147483647) := ⟨i32_lo _, i32_hi _⟩
  refine tk_getP (D := (dC, dI)) (ci := 11) (v := .int v_3) (C := RX11) (T := TX11) (N := 19) hx hb hU inlX11 hown hK hP mo0 hfo_1 rfl 1 (by decide) (hU _ wd_209) (fun _ h9 => h9) rfl dX11_emptyTape_1 ?_
  refine lv_istore_n (lv' := [(1, .int v_3), (0, .ref o0)]) hx hb dX11_emptyTape_4 rfl hl (by decide) rfl (fun ls hl => ?_)
  refine lv_aload_n hx hb dX11_emptyTape_5 rfl (lv_at hl 1 rfl) ?_
  refine lv_iconst (v := 0) hx hb dX11_emptyTape_6 (by decide) ?_
  refine tk_putP (D := (dC, dI)) (ci := 11) (v := .int 0) (ty := .int) (C := RX11) (T := TX11) (N := 19) hx hb hU inlX11 tyX11 tyX11_ok nmX11 hown hK hP hD hS mo0 hfo_1 rfl 1 (by decide) (hU _ wd_209) (fun _ h9 => h9) rfl (by decide +kernel) rfl rfl (Nat.le_of_ble_eq_true rfl) dX11_emptyTape_7 (fun H locs hP hD hS => ?_)
  obtain ⟨f_21, ef_21⟩ : ∃ y : Nat → va_E, y = va_up f o0 (.inr (11, [.ref a_2, .int 0, .ref a_4, .ref a_5, .ref a_6, .ref a_7, .ref a_8, .ref a_9, .int v_10, .ref a_11, .ref a_12, .ref a_13, .int v_14, .int v_15, .ref a_16, .int v_17, .ref a_18, .ref a_19, .int v_20])) := ⟨_, rfl⟩
  have hP : va_P (dC, dI) vwCl (va_pl L f_21) H := by rw [ef_21]; exact hP
  have hD : va_D (fun q => q ∈ L) (va_pl L f_21) := by rw [ef_21]; exact hD
  have hG : GI (okc cI cL cZ cR L kd) kd L f_21 := by rw [ef_21]; exact hG.set o0 (mk_11 ko0 ⟨a_2, 0, a_4, a_5, a_6, a_7, a_8, a_9, v_10, a_11, a_12, a_13, v_14, v_15, a_16, v_17, a_18, a_19, v_20, rfl, ⟨ma_2, ka_2⟩, (by decide), ⟨ma_4, ka_4⟩, ⟨ma_5, ka_5⟩, ⟨ma_6, ka_6⟩, ⟨ma_7, ka_7⟩, ⟨ma_8, ka_8⟩, ⟨ma_9, ka_9⟩, (by constructor <;> omega), ⟨ma_11, ka_11⟩, ⟨ma_12, ka_12⟩, ⟨ma_13, ka_13⟩, (by constructor <;> omega), ⟨ma_16, ka_16⟩, (by constructor <;> omega), ⟨ma_18, ka_18⟩, ⟨ma_19, ka_19⟩⟩)
  have hfo_22 : f_21 o0 = .inr (11, [.ref a_2, .int 0, .ref a_4, .ref a_5, .ref a_6, .ref a_7, .ref a_8, .ref a_9, .int v_10, .ref a_11, .ref a_12, .ref a_13, .int v_14, .int v_15, .ref a_16, .int v_17, .ref a_18, .ref a_19, .int v_20]) := by rw [ef_21]; exact up_self
  refine lv_iload_n hx hb dX11_emptyTape_10 rfl (lv_at hl 0 rfl) ?_
  exact W.iret (v := v_3) hx hb hr (fun t ht hW => ⟨⟨v_3, f_21, rfl, ⟨hG, (by constructor <;> omega)⟩, by rw [ht]; exact hP, va_K.moved hW.alike hK, pl_in hD⟩, hS.F ht⟩) hS.2.2 dX11_emptyTape_11
set_option maxHeartbeats 8000000 in
set_option maxRecDepth 100000 in
theorem s_X11_isSet_k11 (l : Launch) (D : va_G) (cI cL cZ cR : ClassId) (kd : Nat → Nat) (L : List Nat) (f : Nat → va_E) (hG : GI (okc cI cL cZ cR L kd) kd L f) (o0 : Nat) (mo0 : o0 ∈ L) (ko0 : kd o0 = 11) (p1 : Int32) : mPI l D cI cL cZ cR yX11_isSet cX11_isSet 2 (some .boolean) 0 0 [.ref o0, .int p1] L f (fun (r : Int32) (f9 : Nat → va_E) => GI (okc cI cL cZ cR L kd) kd L f9 ∧ (0 ≤ r.toInt ∧ r.toInt ≤ 1) ∧ (r.toInt = 0 ∨ (0 ≤ p1.toInt ∧ p1.toInt ≤ 255))) := by
  obtain ⟨dC, dI⟩ := D
  refine Met.ofW (cc := cX11_isSet) (maxL := 2) (ret := (some .boolean)) (by decide) rfl ?_
  intro p e s m args below meth c s₁ B hml hv
  obtain ⟨rfl, hP, hK, hD0, hN⟩ := hv
  have hx := B.exec
  have hb := B.bytes
  have hr := B.returns
  have hU : ∀ w ∈ wsU, w.before _ s = true := fun w h => atoms_spec (ws := wU yX11_isSet cX11_isSet 2 (some .boolean)) B.pre w (List.mem_cons_of_mem _ h)
  have hown : s.vm.findClass RX11 = some m.cls := findClass_of_methodNamed B.named
  have hlocks := B.notSynchronized
  have hD := pl_in hD0
  have hS : va_S (fun q => q ∈ L) s.heap s.heap [] := va_S.rf
  have hl := lv_entry ([.ref o0, .int p1]) (n := 2) (Nat.le_of_ble_eq_true rfl)
  rw [lg_entry_eq]
  generalize (lg_sl ([.ref o0, .int p1]) ++ List.replicate (2 - (lg_sl ([.ref o0, .int p1])).length) Slot.unset).toArray = ls at hl ⊢
  have hl : lv_has ls 2 [(0, .ref o0), (1, .int p1)] := hl
  have bp1 : ((-2147483648) ≤ p1.toInt ∧ p1.toInt ≤ 2147483647) := ⟨i32_lo _, i32_hi _⟩
  refine lv_iload_n hx hb dX11_isSet_0 rfl (lv_at hl 1 rfl) ?_
  refine lv_if_lt (tgt := 21) hx hb dX11_isSet_1 (by decide) (fun c_1 => ?_) (fun c_1 => ?_)
  · skip
    rw [Int32.lt_iff_toInt_lt, ti_0] at c_1
    refine lv_iconst (v := 0) hx hb dX11_isSet_21 (by decide) ?_
    exact W.zret (v := 0) (ty := .boolean) hx hb hr rfl (fun t ht hW => ⟨⟨0, f, rfl, ⟨hG, (by decide), (by rw [ti_0]; omega)⟩, by rw [ht]; exact hP, va_K.moved hW.alike hK, pl_in hD⟩, hS.F ht⟩) hS.2.2 dX11_isSet_22
  · skip
    rw [Int32.lt_iff_toInt_lt, ti_0] at c_1
    refine lv_iload_n hx hb dX11_isSet_4 rfl (lv_at hl 1 rfl) ?_
    refine lv_iconst (v := 1) hx hb dX11_isSet_5 (by decide) ?_
    refine lv_aload_n hx hb dX11_isSet_6 rfl (lv_at hl 0 rfl) ?_
    obtain ⟨a_3, v_4, a_5, a_6, a_7, a_8, a_9, a_10, v_11, a_12, a_13, a_14, v_15, v_16, a_17, v_18, a_19, a_20, v_21, hfo_2, ⟨ma_3, ka_3⟩, bv_4, ⟨ma_5, ka_5⟩, ⟨ma_6, ka_6⟩, ⟨ma_7, ka_7⟩, ⟨ma_8, ka_8⟩, ⟨ma_9, ka_9⟩, ⟨ma_10, ka_10⟩, bv_11, ⟨ma_12, ka_12⟩, ⟨ma_13, ka_13⟩, ⟨ma_14, ka_14⟩, bv_15, ⟨ma_17, ka_17⟩, bv_18, ⟨ma_19, ka_19⟩, ⟨ma_20, ka_20⟩⟩ := un_11 (hG _ mo0) ko0
    have bv_16 : ((-2147483648) ≤ v_16.toInt ∧ v_16.toInt ≤ 2147483647) := ⟨i32_lo _, i32_hi _⟩
    have bv_21 : ((-2147483648) ≤ v_21.toInt ∧ v_21.toInt ≤ 2147483647) := ⟨i32_lo _, i32_hi _⟩
    refine tk_getP (D := (dC, dI)) (ci := 11) (v := .ref a_6) (C := RX11) (T := TX11) (N := 19) hx hb hU inlX11 hown hK hP mo0 hfo_2 rfl 3 (by decide) (hU _ wd_19) (fun _ h9 => h9) rfl dX11_isSet_7 ?_
    obtain ⟨a_23, v_24, a_25, a_26, a_27, a_28, v_29, a_30, a_31, a_32, a_33, a_34, v_35, a_36, a_37, a_38, hfo_22, ⟨ma_23, ka_23⟩, bv_24, ⟨ma_25, ka_25⟩, ⟨ma_26, ka_26⟩, ⟨ma_27, ka_27⟩, ⟨ma_28, ka_28⟩, bv_29, ⟨ma_30, ka_30⟩, ⟨ma_31, ka_31⟩, ⟨ma_32, ka_32⟩, ⟨ma_33, ka_33⟩, ⟨ma_34, ka_34⟩, bv_35, ⟨ma_36, ka_36⟩, ⟨ma_37, ka_37⟩, ⟨ma_38, ka_38⟩⟩ := un_7 (hG _ ma_6) ka_6
    refine tk_getP (D := (dC, dI)) (ci := 7) (v := .int v_35) (C := RX7) (T := TX7) (N := 16) hx hb hU inlX7 hown hK hP ma_6 hfo_22 rfl 12 (by decide) (hU _ wd_235) (fun _ h9 => h9) rfl dX11_isSet_10 ?_
    refine lv_ishl hx hb dX11_isSet_13 ?_
    refine lv_topi (fun x_39 ex_39 => ?_)
    have bx_39 : (1 ≤ x_39.toInt ∧ x_39.toInt ≤ 256) := by rw [ex_39]; exact sh_8 (by constructor <;> omega)
    refine lv_icmp_ge (tgt := 21) hx hb dX11_isSet_14 (by decide) (fun c_40 => ?_) (fun c_40 => ?_)
    · skip
      rw [Int32.le_iff_toInt_le] at c_40
      refine lv_iconst (v := 0) hx hb dX11_isSet_21 (by decide) ?_
      exact W.zret (v := 0) (ty := .boolean) hx hb hr rfl (fun t ht hW => ⟨⟨0, f, rfl, ⟨hG, (by decide), (by rw [ti_0]; omega)⟩, by rw [ht]; exact hP, va_K.moved hW.alike hK, pl_in hD⟩, hS.F ht⟩) hS.2.2 dX11_isSet_22
    · skip
      rw [Int32.le_iff_toInt_le] at c_40
      refine lv_iconst (v := 1) hx hb dX11_isSet_17 (by decide) ?_
      refine lv_goto (tgt := 22) hx hb dX11_isSet_18 (by decide) ?_
      exact W.zret (v := 1) (ty := .boolean) hx hb hr rfl (fun t ht hW => ⟨⟨1, f, rfl, ⟨hG, (by decide), (by rw [ti_1]; omega)⟩, by rw [ht]; exact hP, va_K.moved hW.alike hK, pl_in hD⟩, hS.F ht⟩) hS.2.2 dX11_isSet_22
set_option maxHeartbeats 8000000 in
set_option maxRecDepth 100000 in
theorem s_X11_isRule_k11 (l : Launch) (D : va_G) (cI cL cZ cR : ClassId) (kd : Nat → Nat) (L : List Nat) (f : Nat → va_E) (hG : GI (okc cI cL cZ cR L kd) kd L f) (o0 : Nat) (mo0 : o0 ∈ L) (ko0 : kd o0 = 11) (p1 : Int32) : mPI l D cI cL cZ cR yX11_isRule cX11_isRule 2 (some .boolean) 0 0 [.ref o0, .int p1] L f (fun (r : Int32) (f9 : Nat → va_E) => GI (okc cI cL cZ cR L kd) kd L f9 ∧ (0 ≤ r.toInt ∧ r.toInt ≤ 1) ∧ (r.toInt = 0 ∨ (0 ≤ p1.toInt ∧ p1.toInt ≤ 7))) := by
  obtain ⟨dC, dI⟩ := D
  refine Met.ofW (cc := cX11_isRule) (maxL := 2) (ret := (some .boolean)) (by decide) rfl ?_
  intro p e s m args below meth c s₁ B hml hv
  obtain ⟨rfl, hP, hK, hD0, hN⟩ := hv
  have hx := B.exec
  have hb := B.bytes
  have hr := B.returns
  have hU : ∀ w ∈ wsU, w.before _ s = true := fun w h => atoms_spec (ws := wU yX11_isRule cX11_isRule 2 (some .boolean)) B.pre w (List.mem_cons_of_mem _ h)
  have hown : s.vm.findClass RX11 = some m.cls := findClass_of_methodNamed B.named
  have hlocks := B.notSynchronized
  have hD := pl_in hD0
  have hS : va_S (fun q => q ∈ L) s.heap s.heap [] := va_S.rf
  have hl := lv_entry ([.ref o0, .int p1]) (n := 2) (Nat.le_of_ble_eq_true rfl)
  rw [lg_entry_eq]
  generalize (lg_sl ([.ref o0, .int p1]) ++ List.replicate (2 - (lg_sl ([.ref o0, .int p1])).length) Slot.unset).toArray = ls at hl ⊢
  have hl : lv_has ls 2 [(0, .ref o0), (1, .int p1)] := hl
  have bp1 : ((-2147483648) ≤ p1.toInt ∧ p1.toInt ≤ 2147483647) := ⟨i32_lo _, i32_hi _⟩
  refine lv_iload_n hx hb dX11_isRule_0 rfl (lv_at hl 1 rfl) ?_
  refine lv_if_lt (tgt := 19) hx hb dX11_isRule_1 (by decide) (fun c_1 => ?_) (fun c_1 => ?_)
  · skip
    rw [Int32.lt_iff_toInt_lt, ti_0] at c_1
    refine lv_iconst (v := 0) hx hb dX11_isRule_19 (by decide) ?_
    exact W.zret (v := 0) (ty := .boolean) hx hb hr rfl (fun t ht hW => ⟨⟨0, f, rfl, ⟨hG, (by decide), (by rw [ti_0]; omega)⟩, by rw [ht]; exact hP, va_K.moved hW.alike hK, pl_in hD⟩, hS.F ht⟩) hS.2.2 dX11_isRule_20
  · skip
    rw [Int32.lt_iff_toInt_lt, ti_0] at c_1
    refine lv_iload_n hx hb dX11_isRule_4 rfl (lv_at hl 1 rfl) ?_
    refine lv_aload_n hx hb dX11_isRule_5 rfl (lv_at hl 0 rfl) ?_
    obtain ⟨a_3, v_4, a_5, a_6, a_7, a_8, a_9, a_10, v_11, a_12, a_13, a_14, v_15, v_16, a_17, v_18, a_19, a_20, v_21, hfo_2, ⟨ma_3, ka_3⟩, bv_4, ⟨ma_5, ka_5⟩, ⟨ma_6, ka_6⟩, ⟨ma_7, ka_7⟩, ⟨ma_8, ka_8⟩, ⟨ma_9, ka_9⟩, ⟨ma_10, ka_10⟩, bv_11, ⟨ma_12, ka_12⟩, ⟨ma_13, ka_13⟩, ⟨ma_14, ka_14⟩, bv_15, ⟨ma_17, ka_17⟩, bv_18, ⟨ma_19, ka_19⟩, ⟨ma_20, ka_20⟩⟩ := un_11 (hG _ mo0) ko0
    have bv_16 : ((-2147483648) ≤ v_16.toInt ∧ v_16.toInt ≤ 2147483647) := ⟨i32_lo _, i32_hi _⟩
    have bv_21 : ((-2147483648) ≤ v_21.toInt ∧ v_21.toInt ≤ 2147483647) := ⟨i32_lo _, i32_hi _⟩
    refine tk_getP (D := (dC, dI)) (ci := 11) (v := .ref a_6) (C := RX11) (T := TX11) (N := 19) hx hb hU inlX11 hown hK hP mo0 hfo_2 rfl 3 (by decide) (hU _ wd_19) (fun _ h9 => h9) rfl dX11_isRule_6 ?_
    obtain ⟨a_23, v_24, a_25, a_26, a_27, a_28, v_29, a_30, a_31, a_32, a_33, a_34, v_35, a_36, a_37, a_38, hfo_22, ⟨ma_23, ka_23⟩, bv_24, ⟨ma_25, ka_25⟩, ⟨ma_26, ka_26⟩, ⟨ma_27, ka_27⟩, ⟨ma_28, ka_28⟩, bv_29, ⟨ma_30, ka_30⟩, ⟨ma_31, ka_31⟩, ⟨ma_32, ka_32⟩, ⟨ma_33, ka_33⟩, ⟨ma_34, ka_34⟩, bv_35, ⟨ma_36, ka_36⟩, ⟨ma_37, ka_37⟩, ⟨ma_38, ka_38⟩⟩ := un_7 (hG _ ma_6) ka_6
    refine tk_getP (D := (dC, dI)) (ci := 7) (v := .int v_35) (C := RX7) (T := TX7) (N := 16) hx hb hU inlX7 hown hK hP ma_6 hfo_22 rfl 12 (by decide) (hU _ wd_235) (fun _ h9 => h9) rfl dX11_isRule_9 ?_
    refine lv_icmp_ge (tgt := 19) hx hb dX11_isRule_12 (by decide) (fun c_39 => ?_) (fun c_39 => ?_)
    · skip
      rw [Int32.le_iff_toInt_le] at c_39
      refine lv_iconst (v := 0) hx hb dX11_isRule_19 (by decide) ?_
      exact W.zret (v := 0) (ty := .boolean) hx hb hr rfl (fun t ht hW => ⟨⟨0, f, rfl, ⟨hG, (by decide), (by rw [ti_0]; omega)⟩, by rw [ht]; exact hP, va_K.moved hW.alike hK, pl_in hD⟩, hS.F ht⟩) hS.2.2 dX11_isRule_20
    · skip
      rw [Int32.le_iff_toInt_le] at c_39
      refine lv_iconst (v := 1) hx hb dX11_isRule_15 (by decide) ?_
      refine lv_goto (tgt := 20) hx hb dX11_isRule_16 (by decide) ?_
      exact W.zret (v := 1) (ty := .boolean) hx hb hr rfl (fun t ht hW => ⟨⟨1, f, rfl, ⟨hG, (by decide), (by rw [ti_1]; omega)⟩, by rw [ht]; exact hP, va_K.moved hW.alike hK, pl_in hD⟩, hS.F ht⟩) hS.2.2 dX11_isRule_20
set_option maxHeartbeats 8000000 in
set_option maxRecDepth 100000 in
theorem s_X11_end_k11 (l : Launch) (D : va_G) (cI cL cZ cR : ClassId) (kd : Nat → Nat) (L : List Nat) (f : Nat → va_E) (hG : GI (okc cI cL cZ cR L kd) kd L f) (o0 : Nat) (mo0 : o0 ∈ L) (ko0 : kd o0 = 11) (p1 : Int32) : mPI l D cI cL cZ cR yX11_end cX11_end 2 (some .boolean) 0 0 [.ref o0, .int p1] L f (fun (r : Int32) (f9 : Nat → va_E) => GI (okc cI cL cZ cR L kd) kd L f9 ∧ (0 ≤ r.toInt ∧ r.toInt ≤ 1)) := by
  obtain ⟨dC, dI⟩ := D
  refine Met.ofW (cc := cX11_end) (maxL := 2) (ret := (some .boolean)) (by decide) rfl ?_
  intro p e s m args below meth c s₁ B hml hv
  obtain ⟨rfl, hP, hK, hD0, hN⟩ := hv
  have hx := B.exec
  have hb := B.bytes
  have hr := B.returns
  have hU : ∀ w ∈ wsU, w.before _ s = true := fun w h => atoms_spec (ws := wU yX11_end cX11_end 2 (some .boolean)) B.pre w (List.mem_cons_of_mem _ h)
  have hown : s.vm.findClass RX11 = some m.cls := findClass_of_methodNamed B.named
  have hlocks := B.notSynchronized
  have hD := pl_in hD0
  have hS : va_S (fun q => q ∈ L) s.heap s.heap [] := va_S.rf
  have hl := lv_entry ([.ref o0, .int p1]) (n := 2) (Nat.le_of_ble_eq_true rfl)
  rw [lg_entry_eq]
  generalize (lg_sl ([.ref o0, .int p1]) ++ List.replicate (2 - (lg_sl ([.ref o0, .int p1])).length) Slot.unset).toArray = ls at hl ⊢
  have hl : lv_has ls 2 [(0, .ref o0), (1, .int p1)] := hl
  have bp1 : ((-2147483648) ≤ p1.toInt ∧ p1.toInt ≤ 2147483647) := ⟨i32_lo _, i32_hi _⟩
  refine lv_iload_n hx hb dX11_end_0 rfl (lv_at hl 1 rfl) ?_
  refine lv_if_lt (tgt := 12) hx hb dX11_end_1 (by decide) (fun c_1 => ?_) (fun c_1 => ?_)
  · skip
    rw [Int32.lt_iff_toInt_lt, ti_0] at c_1
    refine lv_iconst (v := 0) hx hb dX11_end_12 (by decide) ?_
    exact W.zret (v := 0) (ty := .boolean) hx hb hr rfl (fun t ht hW => ⟨⟨0, f, rfl, ⟨hG, (by decide)⟩, by rw [ht]; exact hP, va_K.moved hW.alike hK, pl_in hD⟩, hS.F ht⟩) hS.2.2 dX11_end_13
  · skip
    rw [Int32.lt_iff_toInt_lt, ti_0] at c_1
    refine lv_iload_n hx hb dX11_end_4 rfl (lv_at hl 1 rfl) ?_
    refine lv_aload_n hx hb dX11_end_5 rfl (lv_at hl 0 rfl) ?_
    obtain ⟨a_3, v_4, a_5, a_6, a_7, a_8, a_9, a_10, v_11, a_12, a_13, a_14, v_15, v_16, a_17, v_18, a_19, a_20, v_21, hfo_2, ⟨ma_3, ka_3⟩, bv_4, ⟨ma_5, ka_5⟩, ⟨ma_6, ka_6⟩, ⟨ma_7, ka_7⟩, ⟨ma_8, ka_8⟩, ⟨ma_9, ka_9⟩, ⟨ma_10, ka_10⟩, bv_11, ⟨ma_12, ka_12⟩, ⟨ma_13, ka_13⟩, ⟨ma_14, ka_14⟩, bv_15, ⟨ma_17, ka_17⟩, bv_18, ⟨ma_19, ka_19⟩, ⟨ma_20, ka_20⟩⟩ := un_11 (hG _ mo0) ko0
    have bv_16 : ((-2147483648) ≤ v_16.toInt ∧ v_16.toInt ≤ 2147483647) := ⟨i32_lo _, i32_hi _⟩
    have bv_21 : ((-2147483648) ≤ v_21.toInt ∧ v_21.toInt ≤ 2147483647) := ⟨i32_lo _, i32_hi _⟩
    refine tk_getP (D := (dC, dI)) (ci := 11) (v := .int v_4) (C := RX11) (T := TX11) (N := 19) hx hb hU inlX11 hown hK hP mo0 hfo_2 rfl 1 (by decide) (hU _ wd_209) (fun _ h9 => h9) rfl dX11_end_6 ?_
    refine lv_icmp_le (tgt := 14) hx hb dX11_end_9 (by decide) (fun c_22 => ?_) (fun c_22 => ?_)
    · skip
      rw [Int32.le_iff_toInt_le] at c_22
      refine lv_aload_n hx hb dX11_end_14 rfl (lv_at hl 0 rfl) ?_
      refine lv_iload_n hx hb dX11_end_15 rfl (lv_at hl 1 rfl) ?_
      refine tk_putP (D := (dC, dI)) (ci := 11) (v := .int p1) (ty := .int) (C := RX11) (T := TX11) (N := 19) hx hb hU inlX11 tyX11 tyX11_ok nmX11 hown hK hP hD hS mo0 hfo_2 rfl 1 (by decide) (hU _ wd_209) (fun _ h9 => h9) rfl (by decide +kernel) rfl rfl (Nat.le_of_ble_eq_true rfl) dX11_end_16 (fun H locs hP hD hS => ?_)
      obtain ⟨f_23, ef_23⟩ : ∃ y : Nat → va_E, y = va_up f o0 (.inr (11, [.ref a_3, .int p1, .ref a_5, .ref a_6, .ref a_7, .ref a_8, .ref a_9, .ref a_10, .int v_11, .ref a_12, .ref a_13, .ref a_14, .int v_15, .int v_16, .ref a_17, .int v_18, .ref a_19, .ref a_20, .int v_21])) := ⟨_, rfl⟩
      have hP : va_P (dC, dI) vwCl (va_pl L f_23) H := by rw [ef_23]; exact hP
      have hD : va_D (fun q => q ∈ L) (va_pl L f_23) := by rw [ef_23]; exact hD
      have hG : GI (okc cI cL cZ cR L kd) kd L f_23 := by rw [ef_23]; exact hG.set o0 (mk_11 ko0 ⟨a_3, p1, a_5, a_6, a_7, a_8, a_9, a_10, v_11, a_12, a_13, a_14, v_15, v_16, a_17, v_18, a_19, a_20, v_21, rfl, ⟨ma_3, ka_3⟩, (by constructor <;> omega), ⟨ma_5, ka_5⟩, ⟨ma_6, ka_6⟩, ⟨ma_7, ka_7⟩, ⟨ma_8, ka_8⟩, ⟨ma_9, ka_9⟩, ⟨ma_10, ka_10⟩, (by constructor <;> omega), ⟨ma_12, ka_12⟩, ⟨ma_13, ka_13⟩, ⟨ma_14, ka_14⟩, (by constructor <;> omega), ⟨ma_17, ka_17⟩, (by constructor <;> omega), ⟨ma_19, ka_19⟩, ⟨ma_20, ka_20⟩⟩)
      have hfo_24 : f_23 o0 = .inr (11, [.ref a_3, .int p1, .ref a_5, .ref a_6, .ref a_7, .ref a_8, .ref a_9, .ref a_10, .int v_11, .ref a_12, .ref a_13, .ref a_14, .int v_15, .int v_16, .ref a_17, .int v_18, .ref a_19, .ref a_20, .int v_21]) := by rw [ef_23]; exact up_self
      refine lv_iconst (v := 1) hx hb dX11_end_19 (by decide) ?_
      exact W.zret (v := 1) (ty := .boolean) hx hb hr rfl (fun t ht hW => ⟨⟨1, f_23, rfl, ⟨hG, (by decide)⟩, by rw [ht]; exact hP, va_K.moved hW.alike hK, pl_in hD⟩, hS.F ht⟩) hS.2.2 dX11_end_20
    · skip
      rw [Int32.le_iff_toInt_le] at c_22
      refine lv_iconst (v := 0) hx hb dX11_end_12 (by decide) ?_
      exact W.zret (v := 0) (ty := .boolean) hx hb hr rfl (fun t ht hW => ⟨⟨0, f, rfl, ⟨hG, (by decide)⟩, by rw [ht]; exact hP, va_K.moved hW.alike hK, pl_in hD⟩, hS.F ht⟩) hS.2.2 dX11_end_13
set_option maxHeartbeats 8000000 in
set_option maxRecDepth 100000 in
theorem s_X11_slack_k11 (l : Launch) (D : va_G) (cI cL cZ cR : ClassId) (kd : Nat → Nat) (L : List Nat) (f : Nat → va_E) (hG : GI (okc cI cL cZ cR L kd) kd L f) (o0 : Nat) (mo0 : o0 ∈ L) (ko0 : kd o0 = 11) (p1 : Int32) : mPI l D cI cL cZ cR yX11_slack cX11_slack 2 (some .boolean) 0 0 [.ref o0, .int p1] L f (fun (r : Int32) (f9 : Nat → va_E) => GI (okc cI cL cZ cR L kd) kd L f9 ∧ (0 ≤ r.toInt ∧ r.toInt ≤ 1)) := by
  obtain ⟨dC, dI⟩ := D
  refine Met.ofW (cc := cX11_slack) (maxL := 2) (ret := (some .boolean)) (by decide) rfl ?_
  intro p e s m args below meth c s₁ B hml hv
  obtain ⟨rfl, hP, hK, hD0, hN⟩ := hv
  have hx := B.exec
  have hb := B.bytes
  have hr := B.returns
  have hU : ∀ w ∈ wsU, w.before _ s = true := fun w h => atoms_spec (ws := wU yX11_slack cX11_slack 2 (some .boolean)) B.pre w (List.mem_cons_of_mem _ h)
  have hown : s.vm.findClass RX11 = some m.cls := findClass_of_methodNamed B.named
  have hlocks := B.notSynchronized
  have hD := pl_in hD0
  have hS : va_S (fun q => q ∈ L) s.heap s.heap [] := va_S.rf
  have hl := lv_entry ([.ref o0, .int p1]) (n := 2) (Nat.le_of_ble_eq_true rfl)
  rw [lg_entry_eq]
  generalize (lg_sl ([.ref o0, .int p1]) ++ List.replicate (2 - (lg_sl ([.ref o0, .int p1])).length) Slot.unset).toArray = ls at hl ⊢
  have hl : lv_has ls 2 [(0, .ref o0), (1, .int p1)] := hl
  have bp1 : ((-2147483648) ≤ p1.toInt ∧ p1.toInt ≤ 2147483647) := ⟨i32_lo _, i32_hi _⟩
  refine lv_iload_n hx hb dX11_slack_0 rfl (lv_at hl 1 rfl) ?_
  refine lv_if_eq (tgt := 11) hx hb dX11_slack_1 (by decide) (fun c_1 => ?_) (fun c_1 => ?_)
  · skip
    rw [← Int32.toInt_inj, ti_0] at c_1
    refine lv_aload_n hx hb dX11_slack_11 rfl (lv_at hl 0 rfl) ?_
    obtain ⟨a_3, v_4, a_5, a_6, a_7, a_8, a_9, a_10, v_11, a_12, a_13, a_14, v_15, v_16, a_17, v_18, a_19, a_20, v_21, hfo_2, ⟨ma_3, ka_3⟩, bv_4, ⟨ma_5, ka_5⟩, ⟨ma_6, ka_6⟩, ⟨ma_7, ka_7⟩, ⟨ma_8, ka_8⟩, ⟨ma_9, ka_9⟩, ⟨ma_10, ka_10⟩, bv_11, ⟨ma_12, ka_12⟩, ⟨ma_13, ka_13⟩, ⟨ma_14, ka_14⟩, bv_15, ⟨ma_17, ka_17⟩, bv_18, ⟨ma_19, ka_19⟩, ⟨ma_20, ka_20⟩⟩ := un_11 (hG _ mo0) ko0
    have bv_16 : ((-2147483648) ≤ v_16.toInt ∧ v_16.toInt ≤ 2147483647) := ⟨i32_lo _, i32_hi _⟩
    have bv_21 : ((-2147483648) ≤ v_21.toInt ∧ v_21.toInt ≤ 2147483647) := ⟨i32_lo _, i32_hi _⟩
    refine tk_getP (D := (dC, dI)) (ci := 11) (v := .ref a_8) (C := RX11) (T := TX11) (N := 19) hx hb hU inlX11 hown hK hP mo0 hfo_2 rfl 5 (by decide) (hU _ wd_25) (fun _ h9 => h9) rfl dX11_slack_12 ?_
    refine lv_iload_n hx hb dX11_slack_15 rfl (lv_at hl 1 rfl) ?_
    obtain ⟨v_23, v_24, a_25, a_26, a_27, v_28, a_29, a_30, a_31, hfo_22, bv_24, ⟨ma_25, ka_25⟩, ⟨ma_26, ka_26⟩, ⟨ma_27, ka_27⟩, ⟨ma_29, ka_29⟩, ⟨ma_30, ka_30⟩, ⟨ma_31, ka_31⟩⟩ := un_6 (hG _ ma_8) ka_8
    have bv_23 : ((-2147483648) ≤ v_23.toInt ∧ v_23.toInt ≤ 2147483647) := ⟨i32_lo _, i32_hi _⟩
    have bv_28 : ((-2147483648) ≤ v_28.toInt ∧ v_28.toInt ≤ 2147483647) := ⟨i32_lo _, i32_hi _⟩
    refine tk_putP (D := (dC, dI)) (ci := 6) (v := .int p1) (ty := .int) (C := RX6) (T := TX6) (N := 9) hx hb hU inlX6 tyX6 tyX6_ok nmX6 hown hK hP hD hS ma_8 hfo_22 rfl 1 (by decide) (hU _ wd_694) (fun _ h9 => h9) rfl (by decide +kernel) rfl rfl (Nat.le_of_ble_eq_true rfl) dX11_slack_16 (fun H locs hP hD hS => ?_)
    obtain ⟨f_32, ef_32⟩ : ∃ y : Nat → va_E, y = va_up f a_8 (.inr (6, [.int v_23, .int p1, .ref a_25, .ref a_26, .ref a_27, .int v_28, .ref a_29, .ref a_30, .ref a_31])) := ⟨_, rfl⟩
    have hP : va_P (dC, dI) vwCl (va_pl L f_32) H := by rw [ef_32]; exact hP
    have hD : va_D (fun q => q ∈ L) (va_pl L f_32) := by rw [ef_32]; exact hD
    have hG : GI (okc cI cL cZ cR L kd) kd L f_32 := by rw [ef_32]; exact hG.set a_8 (mk_6 ka_8 ⟨v_23, p1, a_25, a_26, a_27, v_28, a_29, a_30, a_31, rfl, (by constructor <;> omega), ⟨ma_25, ka_25⟩, ⟨ma_26, ka_26⟩, ⟨ma_27, ka_27⟩, ⟨ma_29, ka_29⟩, ⟨ma_30, ka_30⟩, ⟨ma_31, ka_31⟩⟩)
    have hfo_33 : f_32 o0 = .inr (11, [.ref a_3, .int v_4, .ref a_5, .ref a_6, .ref a_7, .ref a_8, .ref a_9, .ref a_10, .int v_11, .ref a_12, .ref a_13, .ref a_14, .int v_15, .int v_16, .ref a_17, .int v_18, .ref a_19, .ref a_20, .int v_21]) := by rw [ef_32, up_ne (kd_ne ka_8 ko0 (by decide))]; exact hfo_2
    have hfo_34 : f_32 a_8 = .inr (6, [.int v_23, .int p1, .ref a_25, .ref a_26, .ref a_27, .int v_28, .ref a_29, .ref a_30, .ref a_31]) := by rw [ef_32]; exact up_self
    refine lv_aload_n hx hb dX11_slack_19 rfl (lv_at hl 0 rfl) ?_
    refine lv_dup hx hb dX11_slack_20 rfl ?_
    refine tk_getP (D := (dC, dI)) (ci := 11) (v := .int v_21) (C := RX11) (T := TX11) (N := 19) hx hb hU inlX11 hown hK hP mo0 hfo_33 rfl 18 (by decide) (hU _ wd_236) (fun _ h9 => h9) rfl dX11_slack_21 ?_
    refine lv_iconst (v := 1) hx hb dX11_slack_24 (by decide) ?_
    refine lv_iadd hx hb dX11_slack_25 ?_
    refine lv_topi (fun x_35 ex_35 => ?_)
    have bx_35 : ((-2147483648) ≤ x_35.toInt ∧ x_35.toInt ≤ 2147483647) := ⟨i32_lo _, i32_hi _⟩
    refine tk_putP (D := (dC, dI)) (ci := 11) (v := .int x_35) (ty := .int) (C := RX11) (T := TX11) (N := 19) hx hb hU inlX11 tyX11 tyX11_ok nmX11 hown hK hP hD hS mo0 hfo_33 rfl 18 (by decide) (hU _ wd_236) (fun _ h9 => h9) rfl (by decide +kernel) rfl rfl (Nat.le_of_ble_eq_true rfl) dX11_slack_26 (fun H locs hP hD hS => ?_)
    obtain ⟨f_36, ef_36⟩ : ∃ y : Nat → va_E, y = va_up f_32 o0 (.inr (11, [.ref a_3, .int v_4, .ref a_5, .ref a_6, .ref a_7, .ref a_8, .ref a_9, .ref a_10, .int v_11, .ref a_12, .ref a_13, .ref a_14, .int v_15, .int v_16, .ref a_17, .int v_18, .ref a_19, .ref a_20, .int x_35])) := ⟨_, rfl⟩
    have hP : va_P (dC, dI) vwCl (va_pl L f_36) H := by rw [ef_36]; exact hP
    have hD : va_D (fun q => q ∈ L) (va_pl L f_36) := by rw [ef_36]; exact hD
    have hG : GI (okc cI cL cZ cR L kd) kd L f_36 := by rw [ef_36]; exact hG.set o0 (mk_11 ko0 ⟨a_3, v_4, a_5, a_6, a_7, a_8, a_9, a_10, v_11, a_12, a_13, a_14, v_15, v_16, a_17, v_18, a_19, a_20, x_35, rfl, ⟨ma_3, ka_3⟩, (by constructor <;> omega), ⟨ma_5, ka_5⟩, ⟨ma_6, ka_6⟩, ⟨ma_7, ka_7⟩, ⟨ma_8, ka_8⟩, ⟨ma_9, ka_9⟩, ⟨ma_10, ka_10⟩, (by constructor <;> omega), ⟨ma_12, ka_12⟩, ⟨ma_13, ka_13⟩, ⟨ma_14, ka_14⟩, (by constructor <;> omega), ⟨ma_17, ka_17⟩, (by constructor <;> omega), ⟨ma_19, ka_19⟩, ⟨ma_20, ka_20⟩⟩)
    have hfo_37 : f_36 a_8 = .inr (6, [.int v_23, .int p1, .ref a_25, .ref a_26, .ref a_27, .int v_28, .ref a_29, .ref a_30, .ref a_31]) := by rw [ef_36, up_ne (kd_ne ko0 ka_8 (by decide))]; exact hfo_34
    have hfo_38 : f_36 o0 = .inr (11, [.ref a_3, .int v_4, .ref a_5, .ref a_6, .ref a_7, .ref a_8, .ref a_9, .ref a_10, .int v_11, .ref a_12, .ref a_13, .ref a_14, .int v_15, .int v_16, .ref a_17, .int v_18, .ref a_19, .ref a_20, .int x_35]) := by rw [ef_36]; exact up_self
    refine lv_iconst (v := 1) hx hb dX11_slack_29 (by decide) ?_
    exact W.zret (v := 1) (ty := .boolean) hx hb hr rfl (fun t ht hW => ⟨⟨1, f_36, rfl, ⟨hG, (by decide)⟩, by rw [ht]; exact hP, va_K.moved hW.alike hK, pl_in hD⟩, hS.F ht⟩) hS.2.2 dX11_slack_30
  · skip
    rw [← Int32.toInt_inj, ti_0] at c_1
    refine lv_iload_n hx hb dX11_slack_4 rfl (lv_at hl 1 rfl) ?_
    refine lv_iconst (v := 1) hx hb dX11_slack_5 (by decide) ?_
    refine lv_icmp_eq (tgt := 11) hx hb dX11_slack_6 (by decide) (fun c_39 => ?_) (fun c_39 => ?_)
    · skip
      rw [← Int32.toInt_inj, ti_1] at c_39
      refine lv_aload_n hx hb dX11_slack_11 rfl (lv_at hl 0 rfl) ?_
      obtain ⟨a_41, v_42, a_43, a_44, a_45, a_46, a_47, a_48, v_49, a_50, a_51, a_52, v_53, v_54, a_55, v_56, a_57, a_58, v_59, hfo_40, ⟨ma_41, ka_41⟩, bv_42, ⟨ma_43, ka_43⟩, ⟨ma_44, ka_44⟩, ⟨ma_45, ka_45⟩, ⟨ma_46, ka_46⟩, ⟨ma_47, ka_47⟩, ⟨ma_48, ka_48⟩, bv_49, ⟨ma_50, ka_50⟩, ⟨ma_51, ka_51⟩, ⟨ma_52, ka_52⟩, bv_53, ⟨ma_55, ka_55⟩, bv_56, ⟨ma_57, ka_57⟩, ⟨ma_58, ka_58⟩⟩ := un_11 (hG _ mo0) ko0
      have bv_54 : ((-2147483648) ≤ v_54.toInt ∧ v_54.toInt ≤ 2147483647) := ⟨i32_lo _, i32_hi _⟩
      have bv_59 : ((-2147483648) ≤ v_59.toInt ∧ v_59.toInt ≤ 2147483647) := ⟨i32_lo _, i32_hi _⟩
      refine tk_getP (D := (dC, dI)) (ci := 11) (v := .ref a_46) (C := RX11) (T := TX11) (N := 19) hx hb hU inlX11 hown hK hP mo0 hfo_40 rfl 5 (by decide) (hU _ wd_25) (fun _ h9 => h9) rfl dX11_slack_12 ?_
      refine lv_iload_n hx hb dX11_slack_15 rfl (lv_at hl 1 rfl) ?_
      obtain ⟨v_61, v_62, a_63, a_64, a_65, v_66, a_67, a_68, a_69, hfo_60, bv_62, ⟨ma_63, ka_63⟩, ⟨ma_64, ka_64⟩, ⟨ma_65, ka_65⟩, ⟨ma_67, ka_67⟩, ⟨ma_68, ka_68⟩, ⟨ma_69, ka_69⟩⟩ := un_6 (hG _ ma_46) ka_46
      have bv_61 : ((-2147483648) ≤ v_61.toInt ∧ v_61.toInt ≤ 2147483647) := ⟨i32_lo _, i32_hi _⟩
      have bv_66 : ((-2147483648) ≤ v_66.toInt ∧ v_66.toInt ≤ 2147483647) := ⟨i32_lo _, i32_hi _⟩
      refine tk_putP (D := (dC, dI)) (ci := 6) (v := .int p1) (ty := .int) (C := RX6) (T := TX6) (N := 9) hx hb hU inlX6 tyX6 tyX6_ok nmX6 hown hK hP hD hS ma_46 hfo_60 rfl 1 (by decide) (hU _ wd_694) (fun _ h9 => h9) rfl (by decide +kernel) rfl rfl (Nat.le_of_ble_eq_true rfl) dX11_slack_16 (fun H locs hP hD hS => ?_)
      obtain ⟨f_70, ef_70⟩ : ∃ y : Nat → va_E, y = va_up f a_46 (.inr (6, [.int v_61, .int p1, .ref a_63, .ref a_64, .ref a_65, .int v_66, .ref a_67, .ref a_68, .ref a_69])) := ⟨_, rfl⟩
      have hP : va_P (dC, dI) vwCl (va_pl L f_70) H := by rw [ef_70]; exact hP
      have hD : va_D (fun q => q ∈ L) (va_pl L f_70) := by rw [ef_70]; exact hD
      have hG : GI (okc cI cL cZ cR L kd) kd L f_70 := by rw [ef_70]; exact hG.set a_46 (mk_6 ka_46 ⟨v_61, p1, a_63, a_64, a_65, v_66, a_67, a_68, a_69, rfl, (by constructor <;> omega), ⟨ma_63, ka_63⟩, ⟨ma_64, ka_64⟩, ⟨ma_65, ka_65⟩, ⟨ma_67, ka_67⟩, ⟨ma_68, ka_68⟩, ⟨ma_69, ka_69⟩⟩)
      have hfo_71 : f_70 o0 = .inr (11, [.ref a_41, .int v_42, .ref a_43, .ref a_44, .ref a_45, .ref a_46, .ref a_47, .ref a_48, .int v_49, .ref a_50, .ref a_51, .ref a_52, .int v_53, .int v_54, .ref a_55, .int v_56, .ref a_57, .ref a_58, .int v_59]) := by rw [ef_70, up_ne (kd_ne ka_46 ko0 (by decide))]; exact hfo_40
      have hfo_72 : f_70 a_46 = .inr (6, [.int v_61, .int p1, .ref a_63, .ref a_64, .ref a_65, .int v_66, .ref a_67, .ref a_68, .ref a_69]) := by rw [ef_70]; exact up_self
      refine lv_aload_n hx hb dX11_slack_19 rfl (lv_at hl 0 rfl) ?_
      refine lv_dup hx hb dX11_slack_20 rfl ?_
      refine tk_getP (D := (dC, dI)) (ci := 11) (v := .int v_59) (C := RX11) (T := TX11) (N := 19) hx hb hU inlX11 hown hK hP mo0 hfo_71 rfl 18 (by decide) (hU _ wd_236) (fun _ h9 => h9) rfl dX11_slack_21 ?_
      refine lv_iconst (v := 1) hx hb dX11_slack_24 (by decide) ?_
      refine lv_iadd hx hb dX11_slack_25 ?_
      refine lv_topi (fun x_73 ex_73 => ?_)
      have bx_73 : ((-2147483648) ≤ x_73.toInt ∧ x_73.toInt ≤ 2147483647) := ⟨i32_lo _, i32_hi _⟩
      refine tk_putP (D := (dC, dI)) (ci := 11) (v := .int x_73) (ty := .int) (C := RX11) (T := TX11) (N := 19) hx hb hU inlX11 tyX11 tyX11_ok nmX11 hown hK hP hD hS mo0 hfo_71 rfl 18 (by decide) (hU _ wd_236) (fun _ h9 => h9) rfl (by decide +kernel) rfl rfl (Nat.le_of_ble_eq_true rfl) dX11_slack_26 (fun H locs hP hD hS => ?_)
      obtain ⟨f_74, ef_74⟩ : ∃ y : Nat → va_E, y = va_up f_70 o0 (.inr (11, [.ref a_41, .int v_42, .ref a_43, .ref a_44, .ref a_45, .ref a_46, .ref a_47, .ref a_48, .int v_49, .ref a_50, .ref a_51, .ref a_52, .int v_53, .int v_54, .ref a_55, .int v_56, .ref a_57, .ref a_58, .int x_73])) := ⟨_, rfl⟩
      have hP : va_P (dC, dI) vwCl (va_pl L f_74) H := by rw [ef_74]; exact hP
      have hD : va_D (fun q => q ∈ L) (va_pl L f_74) := by rw [ef_74]; exact hD
      have hG : GI (okc cI cL cZ cR L kd) kd L f_74 := by rw [ef_74]; exact hG.set o0 (mk_11 ko0 ⟨a_41, v_42, a_43, a_44, a_45, a_46, a_47, a_48, v_49, a_50, a_51, a_52, v_53, v_54, a_55, v_56, a_57, a_58, x_73, rfl, ⟨ma_41, ka_41⟩, (by constructor <;> omega), ⟨ma_43, ka_43⟩, ⟨ma_44, ka_44⟩, ⟨ma_45, ka_45⟩, ⟨ma_46, ka_46⟩, ⟨ma_47, ka_47⟩, ⟨ma_48, ka_48⟩, (by constructor <;> omega), ⟨ma_50, ka_50⟩, ⟨ma_51, ka_51⟩, ⟨ma_52, ka_52⟩, (by constructor <;> omega), ⟨ma_55, ka_55⟩, (by constructor <;> omega), ⟨ma_57, ka_57⟩, ⟨ma_58, ka_58⟩⟩)
      have hfo_75 : f_74 a_46 = .inr (6, [.int v_61, .int p1, .ref a_63, .ref a_64, .ref a_65, .int v_66, .ref a_67, .ref a_68, .ref a_69]) := by rw [ef_74, up_ne (kd_ne ko0 ka_46 (by decide))]; exact hfo_72
      have hfo_76 : f_74 o0 = .inr (11, [.ref a_41, .int v_42, .ref a_43, .ref a_44, .ref a_45, .ref a_46, .ref a_47, .ref a_48, .int v_49, .ref a_50, .ref a_51, .ref a_52, .int v_53, .int v_54, .ref a_55, .int v_56, .ref a_57, .ref a_58, .int x_73]) := by rw [ef_74]; exact up_self
      refine lv_iconst (v := 1) hx hb dX11_slack_29 (by decide) ?_
      exact W.zret (v := 1) (ty := .boolean) hx hb hr rfl (fun t ht hW => ⟨⟨1, f_74, rfl, ⟨hG, (by decide)⟩, by rw [ht]; exact hP, va_K.moved hW.alike hK, pl_in hD⟩, hS.F ht⟩) hS.2.2 dX11_slack_30
    · skip
      rw [← Int32.toInt_inj, ti_1] at c_39
      refine lv_iconst (v := 0) hx hb dX11_slack_9 (by decide) ?_
      exact W.zret (v := 0) (ty := .boolean) hx hb hr rfl (fun t ht hW => ⟨⟨0, f, rfl, ⟨hG, (by decide)⟩, by rw [ht]; exact hP, va_K.moved hW.alike hK, pl_in hD⟩, hS.F ht⟩) hS.2.2 dX11_slack_10
set_option maxHeartbeats 8000000 in
set_option maxRecDepth 100000 in
theorem s_X11_where_k11 (l : Launch) (D : va_G) (cI cL cZ cR : ClassId) (kd : Nat → Nat) (L : List Nat) (f : Nat → va_E) (hG : GI (okc cI cL cZ cR L kd) kd L f) (o0 : Nat) (mo0 : o0 ∈ L) (ko0 : kd o0 = 11) : mPI l D cI cL cZ cR yX11_where cX11_where 1 (some .int) 0 0 [.ref o0] L f (fun (r : Int32) (f9 : Nat → va_E) => GI (okc cI cL cZ cR L kd) kd L f9 ∧ ((-2147483648) ≤ r.toInt ∧ r.toInt ≤ 2147483647)) := by
  obtain ⟨dC, dI⟩ := D
  refine Met.ofW (cc := cX11_where) (maxL := 1) (ret := (some .int)) (by decide) rfl ?_
  intro p e s m args below meth c s₁ B hml hv
  obtain ⟨rfl, hP, hK, hD0, hN⟩ := hv
  have hx := B.exec
  have hb := B.bytes
  have hr := B.returns
  have hU : ∀ w ∈ wsU, w.before _ s = true := fun w h => atoms_spec (ws := wU yX11_where cX11_where 1 (some .int)) B.pre w (List.mem_cons_of_mem _ h)
  have hown : s.vm.findClass RX11 = some m.cls := findClass_of_methodNamed B.named
  have hlocks := B.notSynchronized
  have hD := pl_in hD0
  have hS : va_S (fun q => q ∈ L) s.heap s.heap [] := va_S.rf
  have hl := lv_entry ([.ref o0]) (n := 1) (Nat.le_of_ble_eq_true rfl)
  rw [lg_entry_eq]
  generalize (lg_sl ([.ref o0]) ++ List.replicate (1 - (lg_sl ([.ref o0])).length) Slot.unset).toArray = ls at hl ⊢
  have hl : lv_has ls 1 [(0, .ref o0)] := hl
  refine lv_aload_n hx hb dX11_where_0 rfl (lv_at hl 0 rfl) ?_
  obtain ⟨a_2, v_3, a_4, a_5, a_6, a_7, a_8, a_9, v_10, a_11, a_12, a_13, v_14, v_15, a_16, v_17, a_18, a_19, v_20, hfo_1, ⟨ma_2, ka_2⟩, bv_3, ⟨ma_4, ka_4⟩, ⟨ma_5, ka_5⟩, ⟨ma_6, ka_6⟩, ⟨ma_7, ka_7⟩, ⟨ma_8, ka_8⟩, ⟨ma_9, ka_9⟩, bv_10, ⟨ma_11, ka_11⟩, ⟨ma_12, ka_12⟩, ⟨ma_13, ka_13⟩, bv_14, ⟨ma_16, ka_16⟩, bv_17, ⟨ma_18, ka_18⟩, ⟨ma_19, ka_19⟩⟩ := un_11 (hG _ mo0) ko0
  have bv_15 : ((-2147483648) ≤ v_15.toInt ∧ v_15.toInt ≤ 2147483647) := ⟨i32_lo _, i32_hi _⟩
  have bv_20 : ((-2147483648) ≤ v_20.toInt ∧ v_20.toInt ≤ 2147483647) := ⟨i32_lo _, i32_hi _⟩
  refine tk_getP (D := (dC, dI)) (ci := 11) (v := .int v_15) (C := RX11) (T := TX11) (N := 19) hx hb hU inlX11 hown hK hP mo0 hfo_1 rfl 13 (by decide) (hU _ wd_40) (fun _ h9 => h9) rfl dX11_where_1 ?_
  exact W.iret (v := v_15) hx hb hr (fun t ht hW => ⟨⟨v_15, f, rfl, ⟨hG, (by constructor <;> omega)⟩, by rw [ht]; exact hP, va_K.moved hW.alike hK, pl_in hD⟩, hS.F ht⟩) hS.2.2 dX11_where_4
set_option maxHeartbeats 8000000 in
set_option maxRecDepth 100000 in
theorem s_X11_fault_k11 (l : Launch) (D : va_G) (cI cL cZ cR : ClassId) (kd : Nat → Nat) (L : List Nat) (f : Nat → va_E) (hG : GI (okc cI cL cZ cR L kd) kd L f) (o0 : Nat) (mo0 : o0 ∈ L) (ko0 : kd o0 = 11) (p1 : Int32) : mPI l D cI cL cZ cR yX11_fault cX11_fault 2 (some .int) 0 0 [.ref o0, .int p1] L f (fun (r : Int32) (f9 : Nat → va_E) => GI (okc cI cL cZ cR L kd) kd L f9 ∧ ((-2147483648) ≤ r.toInt ∧ r.toInt ≤ 2147483647)) := by
  obtain ⟨dC, dI⟩ := D
  refine Met.ofW (cc := cX11_fault) (maxL := 2) (ret := (some .int)) (by decide) rfl ?_
  intro p e s m args below meth c s₁ B hml hv
  obtain ⟨rfl, hP, hK, hD0, hN⟩ := hv
  have hx := B.exec
  have hb := B.bytes
  have hr := B.returns
  have hU : ∀ w ∈ wsU, w.before _ s = true := fun w h => atoms_spec (ws := wU yX11_fault cX11_fault 2 (some .int)) B.pre w (List.mem_cons_of_mem _ h)
  have hown : s.vm.findClass RX11 = some m.cls := findClass_of_methodNamed B.named
  have hlocks := B.notSynchronized
  have hD := pl_in hD0
  have hS : va_S (fun q => q ∈ L) s.heap s.heap [] := va_S.rf
  have hl := lv_entry ([.ref o0, .int p1]) (n := 2) (Nat.le_of_ble_eq_true rfl)
  rw [lg_entry_eq]
  generalize (lg_sl ([.ref o0, .int p1]) ++ List.replicate (2 - (lg_sl ([.ref o0, .int p1])).length) Slot.unset).toArray = ls at hl ⊢
  have hl : lv_has ls 2 [(0, .ref o0), (1, .int p1)] := hl
  have bp1 : ((-2147483648) ≤ p1.toInt ∧ p1.toInt ≤ 2147483647) := ⟨i32_lo _, i32_hi _⟩
  refine lv_iload_n hx hb dX11_fault_0 rfl (lv_at hl 1 rfl) ?_
  refine lv_if_ne (tgt := 12) hx hb dX11_fault_1 (by decide) (fun c_1 => ?_) (fun c_1 => ?_)
  · skip
    rw [← Int32.toInt_inj, ti_0] at c_1
    refine lv_iload_n hx hb dX11_fault_12 rfl (lv_at hl 1 rfl) ?_
    refine lv_iconst (v := 1) hx hb dX11_fault_13 (by decide) ?_
    refine lv_icmp_ne (tgt := 27) hx hb dX11_fault_14 (by decide) (fun c_2 => ?_) (fun c_2 => ?_)
    · skip
      rw [← Int32.toInt_inj, ti_1] at c_2
      refine lv_iconst (v := (-1)) hx hb dX11_fault_27 (by decide) ?_
      exact W.iret (v := (-1)) hx hb hr (fun t ht hW => ⟨⟨(-1), f, rfl, ⟨hG, (by decide)⟩, by rw [ht]; exact hP, va_K.moved hW.alike hK, pl_in hD⟩, hS.F ht⟩) hS.2.2 dX11_fault_28
    · skip
      rw [← Int32.toInt_inj, ti_1] at c_2
      refine lv_aload_n hx hb dX11_fault_17 rfl (lv_at hl 0 rfl) ?_
      obtain ⟨a_4, v_5, a_6, a_7, a_8, a_9, a_10, a_11, v_12, a_13, a_14, a_15, v_16, v_17, a_18, v_19, a_20, a_21, v_22, hfo_3, ⟨ma_4, ka_4⟩, bv_5, ⟨ma_6, ka_6⟩, ⟨ma_7, ka_7⟩, ⟨ma_8, ka_8⟩, ⟨ma_9, ka_9⟩, ⟨ma_10, ka_10⟩, ⟨ma_11, ka_11⟩, bv_12, ⟨ma_13, ka_13⟩, ⟨ma_14, ka_14⟩, ⟨ma_15, ka_15⟩, bv_16, ⟨ma_18, ka_18⟩, bv_19, ⟨ma_20, ka_20⟩, ⟨ma_21, ka_21⟩⟩ := un_11 (hG _ mo0) ko0
      have bv_17 : ((-2147483648) ≤ v_17.toInt ∧ v_17.toInt ≤ 2147483647) := ⟨i32_lo _, i32_hi _⟩
      have bv_22 : ((-2147483648) ≤ v_22.toInt ∧ v_22.toInt ≤ 2147483647) := ⟨i32_lo _, i32_hi _⟩
      refine tk_getP (D := (dC, dI)) (ci := 11) (v := .ref a_13) (C := RX11) (T := TX11) (N := 19) hx hb hU inlX11 hown hK hP mo0 hfo_3 rfl 9 (by decide) (hU _ wd_34) (fun _ h9 => h9) rfl dX11_fault_18 ?_
      obtain ⟨a_24, v_25, v_26, a_27, v_28, v_29, v_30, v_31, v_32, v_33, hfo_23, ⟨ma_24, ka_24⟩, ⟨ma_27, ka_27⟩, bv_28, bv_29, bv_30, bv_31, bv_32⟩ := un_2 (hG _ ma_13) ka_13
      have bv_25 : ((-2147483648) ≤ v_25.toInt ∧ v_25.toInt ≤ 2147483647) := ⟨i32_lo _, i32_hi _⟩
      have bv_26 : ((-2147483648) ≤ v_26.toInt ∧ v_26.toInt ≤ 2147483647) := ⟨i32_lo _, i32_hi _⟩
      have bv_33 : ((-2147483648) ≤ v_33.toInt ∧ v_33.toInt ≤ 2147483647) := ⟨i32_lo _, i32_hi _⟩
      refine tk_getP (D := (dC, dI)) (ci := 2) (v := .int v_26) (C := RX2) (T := TX2) (N := 10) hx hb hU inlX2 hown hK hP ma_13 hfo_23 rfl 2 (by decide) (hU _ wd_668) (fun _ h9 => h9) rfl dX11_fault_21 ?_
      refine lv_goto (tgt := 28) hx hb dX11_fault_24 (by decide) ?_
      exact W.iret (v := v_26) hx hb hr (fun t ht hW => ⟨⟨v_26, f, rfl, ⟨hG, (by constructor <;> omega)⟩, by rw [ht]; exact hP, va_K.moved hW.alike hK, pl_in hD⟩, hS.F ht⟩) hS.2.2 dX11_fault_28
  · skip
    rw [← Int32.toInt_inj, ti_0] at c_1
    refine lv_aload_n hx hb dX11_fault_4 rfl (lv_at hl 0 rfl) ?_
    obtain ⟨a_35, v_36, a_37, a_38, a_39, a_40, a_41, a_42, v_43, a_44, a_45, a_46, v_47, v_48, a_49, v_50, a_51, a_52, v_53, hfo_34, ⟨ma_35, ka_35⟩, bv_36, ⟨ma_37, ka_37⟩, ⟨ma_38, ka_38⟩, ⟨ma_39, ka_39⟩, ⟨ma_40, ka_40⟩, ⟨ma_41, ka_41⟩, ⟨ma_42, ka_42⟩, bv_43, ⟨ma_44, ka_44⟩, ⟨ma_45, ka_45⟩, ⟨ma_46, ka_46⟩, bv_47, ⟨ma_49, ka_49⟩, bv_50, ⟨ma_51, ka_51⟩, ⟨ma_52, ka_52⟩⟩ := un_11 (hG _ mo0) ko0
    have bv_48 : ((-2147483648) ≤ v_48.toInt ∧ v_48.toInt ≤ 2147483647) := ⟨i32_lo _, i32_hi _⟩
    have bv_53 : ((-2147483648) ≤ v_53.toInt ∧ v_53.toInt ≤ 2147483647) := ⟨i32_lo _, i32_hi _⟩
    refine tk_getP (D := (dC, dI)) (ci := 11) (v := .ref a_44) (C := RX11) (T := TX11) (N := 19) hx hb hU inlX11 hown hK hP mo0 hfo_34 rfl 9 (by decide) (hU _ wd_34) (fun _ h9 => h9) rfl dX11_fault_5 ?_
    obtain ⟨a_55, v_56, v_57, a_58, v_59, v_60, v_61, v_62, v_63, v_64, hfo_54, ⟨ma_55, ka_55⟩, ⟨ma_58, ka_58⟩, bv_59, bv_60, bv_61, bv_62, bv_63⟩ := un_2 (hG _ ma_44) ka_44
    have bv_56 : ((-2147483648) ≤ v_56.toInt ∧ v_56.toInt ≤ 2147483647) := ⟨i32_lo _, i32_hi _⟩
    have bv_57 : ((-2147483648) ≤ v_57.toInt ∧ v_57.toInt ≤ 2147483647) := ⟨i32_lo _, i32_hi _⟩
    have bv_64 : ((-2147483648) ≤ v_64.toInt ∧ v_64.toInt ≤ 2147483647) := ⟨i32_lo _, i32_hi _⟩
    refine tk_getP (D := (dC, dI)) (ci := 2) (v := .int v_56) (C := RX2) (T := TX2) (N := 10) hx hb hU inlX2 hown hK hP ma_44 hfo_54 rfl 1 (by decide) (hU _ wd_667) (fun _ h9 => h9) rfl dX11_fault_8 ?_
    exact W.iret (v := v_56) hx hb hr (fun t ht hW => ⟨⟨v_56, f, rfl, ⟨hG, (by constructor <;> omega)⟩, by rw [ht]; exact hP, va_K.moved hW.alike hK, pl_in hD⟩, hS.F ht⟩) hS.2.2 dX11_fault_11
set_option maxHeartbeats 8000000 in
set_option maxRecDepth 100000 in
theorem s_X11_use_k11 (l : Launch) (D : va_G) (cI cL cZ cR : ClassId) (kd : Nat → Nat) (L : List Nat) (f : Nat → va_E) (hG : GI (okc cI cL cZ cR L kd) kd L f) (o0 : Nat) (mo0 : o0 ∈ L) (ko0 : kd o0 = 11) (p1 : Int32) : mPI l D cI cL cZ cR yX11_use cX11_use 2 (some .boolean) 1 21 [.ref o0, .int p1] L f (fun (r : Int32) (f9 : Nat → va_E) => GI (okc cI cL cZ cR L kd) kd L f9 ∧ (0 ≤ r.toInt ∧ r.toInt ≤ 1)) := by
  obtain ⟨dC, dI⟩ := D
  refine Met.ofW (cc := cX11_use) (maxL := 2) (ret := (some .boolean)) (by decide) rfl ?_
  intro p e s m args below meth c s₁ B hml hv
  obtain ⟨rfl, hP, hK, hD0, hN⟩ := hv
  have hx := B.exec
  have hb := B.bytes
  have hr := B.returns
  have hU : ∀ w ∈ wsU, w.before _ s = true := fun w h => atoms_spec (ws := wU yX11_use cX11_use 2 (some .boolean)) B.pre w (List.mem_cons_of_mem _ h)
  have hown : s.vm.findClass RX11 = some m.cls := findClass_of_methodNamed B.named
  have hlocks := B.notSynchronized
  have hD := pl_in hD0
  have hS : va_S (fun q => q ∈ L) s.heap s.heap [] := va_S.rf
  have hl := lv_entry ([.ref o0, .int p1]) (n := 2) (Nat.le_of_ble_eq_true rfl)
  rw [lg_entry_eq]
  generalize (lg_sl ([.ref o0, .int p1]) ++ List.replicate (2 - (lg_sl ([.ref o0, .int p1])).length) Slot.unset).toArray = ls at hl ⊢
  have hl : lv_has ls 2 [(0, .ref o0), (1, .int p1)] := hl
  have bp1 : ((-2147483648) ≤ p1.toInt ∧ p1.toInt ≤ 2147483647) := ⟨i32_lo _, i32_hi _⟩
  refine lv_aload_n hx hb dX11_use_0 rfl (lv_at hl 0 rfl) ?_
  refine lv_iload_n hx hb dX11_use_1 rfl (lv_at hl 1 rfl) ?_
  obtain ⟨a_2, v_3, a_4, a_5, a_6, a_7, a_8, a_9, v_10, a_11, a_12, a_13, v_14, v_15, a_16, v_17, a_18, a_19, v_20, hfo_1, ⟨ma_2, ka_2⟩, bv_3, ⟨ma_4, ka_4⟩, ⟨ma_5, ka_5⟩, ⟨ma_6, ka_6⟩, ⟨ma_7, ka_7⟩, ⟨ma_8, ka_8⟩, ⟨ma_9, ka_9⟩, bv_10, ⟨ma_11, ka_11⟩, ⟨ma_12, ka_12⟩, ⟨ma_13, ka_13⟩, bv_14, ⟨ma_16, ka_16⟩, bv_17, ⟨ma_18, ka_18⟩, ⟨ma_19, ka_19⟩⟩ := un_11 (hG _ mo0) ko0
  have bv_15 : ((-2147483648) ≤ v_15.toInt ∧ v_15.toInt ≤ 2147483647) := ⟨i32_lo _, i32_hi _⟩
  have bv_20 : ((-2147483648) ≤ v_20.toInt ∧ v_20.toInt ≤ 2147483647) := ⟨i32_lo _, i32_hi _⟩
  refine tk_ViP (As := [.int p1]) (rest := []) (n := 1) hx hb hml hown hU hN (s_X11_isSet_k11 l (dC, dI) cI cL cZ cR kd L f hG o0 mo0 ko0 p1) wd_678 wd_679 wd_680 wd_2 wd_681 (by decide +kernel) ⟨Nat.le_of_ble_eq_true rfl, Nat.le_of_ble_eq_true rfl⟩ hK hP hD hS mo0 hfo_1 11 rfl rfl rfl hl.1 rfl (Nat.le_of_ble_eq_true rfl) dX11_use_2 ⟨Nat.le_of_ble_eq_true rfl, Nat.le_of_ble_eq_true rfl⟩ (fun x_21 f_22 H locs hw hP hD hS => ?_)
  obtain ⟨hG, bx_21, relx_21⟩ := hw
  refine lv_if_ne (tgt := 10) hx hb dX11_use_5 (by decide) (fun c_23 => ?_) (fun c_23 => ?_)
  · skip
    rw [← Int32.toInt_inj, ti_0] at c_23
    refine lv_aload_n hx hb dX11_use_10 rfl (lv_at hl 0 rfl) ?_
    obtain ⟨a_25, v_26, a_27, a_28, a_29, a_30, a_31, a_32, v_33, a_34, a_35, a_36, v_37, v_38, a_39, v_40, a_41, a_42, v_43, hfo_24, ⟨ma_25, ka_25⟩, bv_26, ⟨ma_27, ka_27⟩, ⟨ma_28, ka_28⟩, ⟨ma_29, ka_29⟩, ⟨ma_30, ka_30⟩, ⟨ma_31, ka_31⟩, ⟨ma_32, ka_32⟩, bv_33, ⟨ma_34, ka_34⟩, ⟨ma_35, ka_35⟩, ⟨ma_36, ka_36⟩, bv_37, ⟨ma_39, ka_39⟩, bv_40, ⟨ma_41, ka_41⟩, ⟨ma_42, ka_42⟩⟩ := un_11 (hG _ mo0) ko0
    have bv_38 : ((-2147483648) ≤ v_38.toInt ∧ v_38.toInt ≤ 2147483647) := ⟨i32_lo _, i32_hi _⟩
    have bv_43 : ((-2147483648) ≤ v_43.toInt ∧ v_43.toInt ≤ 2147483647) := ⟨i32_lo _, i32_hi _⟩
    refine tk_getP (D := (dC, dI)) (ci := 11) (v := .ref a_30) (C := RX11) (T := TX11) (N := 19) hx hb hU inlX11 hown hK hP mo0 hfo_24 rfl 5 (by decide) (hU _ wd_25) (fun _ h9 => h9) rfl dX11_use_11 ?_
    refine lv_iload_n hx hb dX11_use_14 rfl (lv_at hl 1 rfl) ?_
    obtain ⟨v_45, v_46, a_47, a_48, a_49, v_50, a_51, a_52, a_53, hfo_44, bv_46, ⟨ma_47, ka_47⟩, ⟨ma_48, ka_48⟩, ⟨ma_49, ka_49⟩, ⟨ma_51, ka_51⟩, ⟨ma_52, ka_52⟩, ⟨ma_53, ka_53⟩⟩ := un_6 (hG _ ma_30) ka_30
    have bv_45 : ((-2147483648) ≤ v_45.toInt ∧ v_45.toInt ≤ 2147483647) := ⟨i32_lo _, i32_hi _⟩
    have bv_50 : ((-2147483648) ≤ v_50.toInt ∧ v_50.toInt ≤ 2147483647) := ⟨i32_lo _, i32_hi _⟩
    refine tk_putP (D := (dC, dI)) (ci := 6) (v := .int p1) (ty := .int) (C := RX6) (T := TX6) (N := 9) hx hb hU inlX6 tyX6 tyX6_ok nmX6 hown hK hP hD hS ma_30 hfo_44 rfl 0 (by decide) (hU _ wd_677) (fun _ h9 => h9) rfl (by decide +kernel) rfl rfl (Nat.le_of_ble_eq_true rfl) dX11_use_15 (fun H locs hP hD hS => ?_)
    obtain ⟨f_54, ef_54⟩ : ∃ y : Nat → va_E, y = va_up f_22 a_30 (.inr (6, [.int p1, .int v_46, .ref a_47, .ref a_48, .ref a_49, .int v_50, .ref a_51, .ref a_52, .ref a_53])) := ⟨_, rfl⟩
    have hP : va_P (dC, dI) vwCl (va_pl L f_54) H := by rw [ef_54]; exact hP
    have hD : va_D (fun q => q ∈ L) (va_pl L f_54) := by rw [ef_54]; exact hD
    have hG : GI (okc cI cL cZ cR L kd) kd L f_54 := by rw [ef_54]; exact hG.set a_30 (mk_6 ka_30 ⟨p1, v_46, a_47, a_48, a_49, v_50, a_51, a_52, a_53, rfl, (by constructor <;> omega), ⟨ma_47, ka_47⟩, ⟨ma_48, ka_48⟩, ⟨ma_49, ka_49⟩, ⟨ma_51, ka_51⟩, ⟨ma_52, ka_52⟩, ⟨ma_53, ka_53⟩⟩)
    have hfo_55 : f_54 o0 = .inr (11, [.ref a_25, .int v_26, .ref a_27, .ref a_28, .ref a_29, .ref a_30, .ref a_31, .ref a_32, .int v_33, .ref a_34, .ref a_35, .ref a_36, .int v_37, .int v_38, .ref a_39, .int v_40, .ref a_41, .ref a_42, .int v_43]) := by rw [ef_54, up_ne (kd_ne ka_30 ko0 (by decide))]; exact hfo_24
    have hfo_56 : f_54 a_30 = .inr (6, [.int p1, .int v_46, .ref a_47, .ref a_48, .ref a_49, .int v_50, .ref a_51, .ref a_52, .ref a_53]) := by rw [ef_54]; exact up_self
    refine lv_aload_n hx hb dX11_use_18 rfl (lv_at hl 0 rfl) ?_
    refine lv_dup hx hb dX11_use_19 rfl ?_
    refine tk_getP (D := (dC, dI)) (ci := 11) (v := .int v_43) (C := RX11) (T := TX11) (N := 19) hx hb hU inlX11 hown hK hP mo0 hfo_55 rfl 18 (by decide) (hU _ wd_236) (fun _ h9 => h9) rfl dX11_use_20 ?_
    refine lv_iconst (v := 1) hx hb dX11_use_23 (by decide) ?_
    refine lv_iadd hx hb dX11_use_24 ?_
    refine lv_topi (fun x_57 ex_57 => ?_)
    have bx_57 : ((-2147483648) ≤ x_57.toInt ∧ x_57.toInt ≤ 2147483647) := ⟨i32_lo _, i32_hi _⟩
    refine tk_putP (D := (dC, dI)) (ci := 11) (v := .int x_57) (ty := .int) (C := RX11) (T := TX11) (N := 19) hx hb hU inlX11 tyX11 tyX11_ok nmX11 hown hK hP hD hS mo0 hfo_55 rfl 18 (by decide) (hU _ wd_236) (fun _ h9 => h9) rfl (by decide +kernel) rfl rfl (Nat.le_of_ble_eq_true rfl) dX11_use_25 (fun H locs hP hD hS => ?_)
    obtain ⟨f_58, ef_58⟩ : ∃ y : Nat → va_E, y = va_up f_54 o0 (.inr (11, [.ref a_25, .int v_26, .ref a_27, .ref a_28, .ref a_29, .ref a_30, .ref a_31, .ref a_32, .int v_33, .ref a_34, .ref a_35, .ref a_36, .int v_37, .int v_38, .ref a_39, .int v_40, .ref a_41, .ref a_42, .int x_57])) := ⟨_, rfl⟩
    have hP : va_P (dC, dI) vwCl (va_pl L f_58) H := by rw [ef_58]; exact hP
    have hD : va_D (fun q => q ∈ L) (va_pl L f_58) := by rw [ef_58]; exact hD
    have hG : GI (okc cI cL cZ cR L kd) kd L f_58 := by rw [ef_58]; exact hG.set o0 (mk_11 ko0 ⟨a_25, v_26, a_27, a_28, a_29, a_30, a_31, a_32, v_33, a_34, a_35, a_36, v_37, v_38, a_39, v_40, a_41, a_42, x_57, rfl, ⟨ma_25, ka_25⟩, (by constructor <;> omega), ⟨ma_27, ka_27⟩, ⟨ma_28, ka_28⟩, ⟨ma_29, ka_29⟩, ⟨ma_30, ka_30⟩, ⟨ma_31, ka_31⟩, ⟨ma_32, ka_32⟩, (by constructor <;> omega), ⟨ma_34, ka_34⟩, ⟨ma_35, ka_35⟩, ⟨ma_36, ka_36⟩, (by constructor <;> omega), ⟨ma_39, ka_39⟩, (by constructor <;> omega), ⟨ma_41, ka_41⟩, ⟨ma_42, ka_42⟩⟩)
    have hfo_59 : f_58 a_30 = .inr (6, [.int p1, .int v_46, .ref a_47, .ref a_48, .ref a_49, .int v_50, .ref a_51, .ref a_52, .ref a_53]) := by rw [ef_58, up_ne (kd_ne ko0 ka_30 (by decide))]; exact hfo_56
    have hfo_60 : f_58 o0 = .inr (11, [.ref a_25, .int v_26, .ref a_27, .ref a_28, .ref a_29, .ref a_30, .ref a_31, .ref a_32, .int v_33, .ref a_34, .ref a_35, .ref a_36, .int v_37, .int v_38, .ref a_39, .int v_40, .ref a_41, .ref a_42, .int x_57]) := by rw [ef_58]; exact up_self
    refine lv_iconst (v := 1) hx hb dX11_use_28 (by decide) ?_
    exact W.zret (v := 1) (ty := .boolean) hx hb hr rfl (fun t ht hW => ⟨⟨1, f_58, rfl, ⟨hG, (by decide)⟩, by rw [ht]; exact hP, va_K.moved hW.alike hK, pl_in hD⟩, hS.F ht⟩) hS.2.2 dX11_use_29
  · skip
    rw [← Int32.toInt_inj, ti_0] at c_23
    refine lv_iconst (v := 0) hx hb dX11_use_8 (by decide) ?_
    exact W.zret (v := 0) (ty := .boolean) hx hb hr rfl (fun t ht hW => ⟨⟨0, f_22, rfl, ⟨hG, (by decide)⟩, by rw [ht]; exact hP, va_K.moved hW.alike hK, pl_in hD⟩, hS.F ht⟩) hS.2.2 dX11_use_9
set_option maxHeartbeats 8000000 in
set_option maxRecDepth 100000 in
theorem s_X11_aged_k11 (l : Launch) (D : va_G) (cI cL cZ cR : ClassId) (kd : Nat → Nat) (L : List Nat) (f : Nat → va_E) (hG : GI (okc cI cL cZ cR L kd) kd L f) (o0 : Nat) (mo0 : o0 ∈ L) (ko0 : kd o0 = 11) (p1 : Int32) : mPI l D cI cL cZ cR yX11_aged cX11_aged 2 (some .int) 0 0 [.ref o0, .int p1] L f (fun (r : Int32) (f9 : Nat → va_E) => GI (okc cI cL cZ cR L kd) kd L f9 ∧ ((-1) ≤ r.toInt ∧ r.toInt ≤ 8)) := by
  obtain ⟨dC, dI⟩ := D
  refine Met.ofW (cc := cX11_aged) (maxL := 2) (ret := (some .int)) (by decide) rfl ?_
  intro p e s m args below meth c s₁ B hml hv
  obtain ⟨rfl, hP, hK, hD0, hN⟩ := hv
  have hx := B.exec
  have hb := B.bytes
  have hr := B.returns
  have hU : ∀ w ∈ wsU, w.before _ s = true := fun w h => atoms_spec (ws := wU yX11_aged cX11_aged 2 (some .int)) B.pre w (List.mem_cons_of_mem _ h)
  have hown : s.vm.findClass RX11 = some m.cls := findClass_of_methodNamed B.named
  have hlocks := B.notSynchronized
  have hD := pl_in hD0
  have hS : va_S (fun q => q ∈ L) s.heap s.heap [] := va_S.rf
  have hl := lv_entry ([.ref o0, .int p1]) (n := 2) (Nat.le_of_ble_eq_true rfl)
  rw [lg_entry_eq]
  generalize (lg_sl ([.ref o0, .int p1]) ++ List.replicate (2 - (lg_sl ([.ref o0, .int p1])).length) Slot.unset).toArray = ls at hl ⊢
  have hl : lv_has ls 2 [(0, .ref o0), (1, .int p1)] := hl
  have bp1 : ((-2147483648) ≤ p1.toInt ∧ p1.toInt ≤ 2147483647) := ⟨i32_lo _, i32_hi _⟩
  refine lv_iload_n hx hb dX11_aged_0 rfl (lv_at hl 1 rfl) ?_
  refine lv_if_lt (tgt := 12) hx hb dX11_aged_1 (by decide) (fun c_1 => ?_) (fun c_1 => ?_)
  · skip
    rw [Int32.lt_iff_toInt_lt, ti_0] at c_1
    refine lv_iconst (v := (-1)) hx hb dX11_aged_12 (by decide) ?_
    refine lv_goto (tgt := 24) hx hb dX11_aged_13 (by decide) ?_
    exact W.iret (v := (-1)) hx hb hr (fun t ht hW => ⟨⟨(-1), f, rfl, ⟨hG, (by decide)⟩, by rw [ht]; exact hP, va_K.moved hW.alike hK, pl_in hD⟩, hS.F ht⟩) hS.2.2 dX11_aged_24
  · skip
    rw [Int32.lt_iff_toInt_lt, ti_0] at c_1
    refine lv_iload_n hx hb dX11_aged_4 rfl (lv_at hl 1 rfl) ?_
    refine lv_aload_n hx hb dX11_aged_5 rfl (lv_at hl 0 rfl) ?_
    obtain ⟨a_3, v_4, a_5, a_6, a_7, a_8, a_9, a_10, v_11, a_12, a_13, a_14, v_15, v_16, a_17, v_18, a_19, a_20, v_21, hfo_2, ⟨ma_3, ka_3⟩, bv_4, ⟨ma_5, ka_5⟩, ⟨ma_6, ka_6⟩, ⟨ma_7, ka_7⟩, ⟨ma_8, ka_8⟩, ⟨ma_9, ka_9⟩, ⟨ma_10, ka_10⟩, bv_11, ⟨ma_12, ka_12⟩, ⟨ma_13, ka_13⟩, ⟨ma_14, ka_14⟩, bv_15, ⟨ma_17, ka_17⟩, bv_18, ⟨ma_19, ka_19⟩, ⟨ma_20, ka_20⟩⟩ := un_11 (hG _ mo0) ko0
    have bv_16 : ((-2147483648) ≤ v_16.toInt ∧ v_16.toInt ≤ 2147483647) := ⟨i32_lo _, i32_hi _⟩
    have bv_21 : ((-2147483648) ≤ v_21.toInt ∧ v_21.toInt ≤ 2147483647) := ⟨i32_lo _, i32_hi _⟩
    refine tk_getP (D := (dC, dI)) (ci := 11) (v := .int v_18) (C := RX11) (T := TX11) (N := 19) hx hb hU inlX11 hown hK hP mo0 hfo_2 rfl 15 (by decide) (hU _ wd_238) (fun _ h9 => h9) rfl dX11_aged_6 ?_
    refine lv_icmp_lt (tgt := 16) hx hb dX11_aged_9 (by decide) (fun c_22 => ?_) (fun c_22 => ?_)
    · skip
      rw [Int32.lt_iff_toInt_lt] at c_22
      refine lv_aload_n hx hb dX11_aged_16 rfl (lv_at hl 0 rfl) ?_
      refine tk_getP (D := (dC, dI)) (ci := 11) (v := .ref a_17) (C := RX11) (T := TX11) (N := 19) hx hb hU inlX11 hown hK hP mo0 hfo_2 rfl 14 (by decide) (hU _ wd_41) (fun _ h9 => h9) rfl dX11_aged_17 ?_
      refine lv_iload_n hx hb dX11_aged_20 rfl (lv_at hl 1 rfl) ?_
      obtain ⟨g_24, hfo_23, hbg_24⟩ := un_27 (hG _ ma_17) ka_17
      refine tk_ildP hx hb hK hP 0 ma_17 hfo_23 rfl (vp_in_iff.mpr (by constructor <;> omega)) dX11_aged_21 ?_
      refine lv_topi (fun x_25 ex_25 => ?_)
      have bx_25 : (0 ≤ x_25.toInt ∧ x_25.toInt ≤ 8) := by rw [ex_25]; exact hbg_24 _
      refine lv_iconst (v := 1) hx hb dX11_aged_22 (by decide) ?_
      refine lv_isub hx hb dX11_aged_23 ?_
      refine lv_topi (fun x_26 ex_26 => ?_)
      have hx_26 : x_26.toInt = x_25.toInt - 1 := by rw [ex_26, sb_I (by rw [ti_1]; omega) (by rw [ti_1]; omega), ti_1]
      have bx_26 : ((-1) ≤ x_26.toInt ∧ x_26.toInt ≤ 7) := by constructor <;> omega
      exact W.iret (v := x_26) hx hb hr (fun t ht hW => ⟨⟨x_26, f, rfl, ⟨hG, (by constructor <;> omega)⟩, by rw [ht]; exact hP, va_K.moved hW.alike hK, pl_in hD⟩, hS.F ht⟩) hS.2.2 dX11_aged_24
    · skip
      rw [Int32.lt_iff_toInt_lt] at c_22
      refine lv_iconst (v := (-1)) hx hb dX11_aged_12 (by decide) ?_
      refine lv_goto (tgt := 24) hx hb dX11_aged_13 (by decide) ?_
      exact W.iret (v := (-1)) hx hb hr (fun t ht hW => ⟨⟨(-1), f, rfl, ⟨hG, (by decide)⟩, by rw [ht]; exact hP, va_K.moved hW.alike hK, pl_in hD⟩, hS.F ht⟩) hS.2.2 dX11_aged_24
set_option maxHeartbeats 8000000 in
set_option maxRecDepth 100000 in
theorem s_X11_putNumber_k11 (l : Launch) (D : va_G) (cI cL cZ cR : ClassId) (kd : Nat → Nat) (L : List Nat) (f : Nat → va_E) (hG : GI (okc cI cL cZ cR L kd) kd L f) (o0 : Nat) (mo0 : o0 ∈ L) (ko0 : kd o0 = 11) (p1 : Int32) (hpreo0 : ∀ (w1 : Int32), fldI (f o0) 1 = some w1 → w1.toInt ≤ 596) : mPV l D cI cL cZ cR yX11_putNumber cX11_putNumber 3 none 0 0 [.ref o0, .int p1] L f (fun (f9 : Nat → va_E) => GI (okc cI cL cZ cR L kd) kd L f9 ∧ (∀ (w1 z1 : Int32), fldI (f o0) 1 = some w1 → fldI (f9 o0) 1 = some z1 → z1.toInt = w1.toInt + 4)) := by
  obtain ⟨dC, dI⟩ := D
  refine Met.ofW (cc := cX11_putNumber) (maxL := 3) (ret := none) (by decide) rfl ?_
  intro p e s m args below meth c s₁ B hml hv
  obtain ⟨rfl, hP, hK, hD0, hN⟩ := hv
  have hx := B.exec
  have hb := B.bytes
  have hr := B.returns
  have hU : ∀ w ∈ wsU, w.before _ s = true := fun w h => atoms_spec (ws := wU yX11_putNumber cX11_putNumber 3 none) B.pre w (List.mem_cons_of_mem _ h)
  have hown : s.vm.findClass RX11 = some m.cls := findClass_of_methodNamed B.named
  have hlocks := B.notSynchronized
  have hD := pl_in hD0
  have hS : va_S (fun q => q ∈ L) s.heap s.heap [] := va_S.rf
  have hl := lv_entry ([.ref o0, .int p1]) (n := 3) (Nat.le_of_ble_eq_true rfl)
  rw [lg_entry_eq]
  generalize (lg_sl ([.ref o0, .int p1]) ++ List.replicate (3 - (lg_sl ([.ref o0, .int p1])).length) Slot.unset).toArray = ls at hl ⊢
  have hl : lv_has ls 3 [(0, .ref o0), (1, .int p1)] := hl
  have bp1 : ((-2147483648) ≤ p1.toInt ∧ p1.toInt ≤ 2147483647) := ⟨i32_lo _, i32_hi _⟩
  refine lv_bipush (v := 24) hx hb dX11_putNumber_0 (by decide) ?_
  refine lv_istore_n (lv' := [(2, .int 24), (0, .ref o0), (1, .int p1)]) hx hb dX11_putNumber_2 rfl hl (by decide) rfl (fun ls hl => ?_)
  refine lv_iload_n hx hb dX11_putNumber_3 rfl (lv_at hl 0 rfl) ?_
  refine lv_if_lt (tgt := 39) hx hb dX11_putNumber_4 (by decide) (fun c9 => absurd c9 (by decide)) (fun _ => ?_)
  refine lv_aload_n hx hb dX11_putNumber_7 rfl (lv_at hl 1 rfl) ?_
  obtain ⟨a_2, v_3, a_4, a_5, a_6, a_7, a_8, a_9, v_10, a_11, a_12, a_13, v_14, v_15, a_16, v_17, a_18, a_19, v_20, hfo_1, ⟨ma_2, ka_2⟩, bv_3, ⟨ma_4, ka_4⟩, ⟨ma_5, ka_5⟩, ⟨ma_6, ka_6⟩, ⟨ma_7, ka_7⟩, ⟨ma_8, ka_8⟩, ⟨ma_9, ka_9⟩, bv_10, ⟨ma_11, ka_11⟩, ⟨ma_12, ka_12⟩, ⟨ma_13, ka_13⟩, bv_14, ⟨ma_16, ka_16⟩, bv_17, ⟨ma_18, ka_18⟩, ⟨ma_19, ka_19⟩⟩ := un_11 (hG _ mo0) ko0
  have bv_15 : ((-2147483648) ≤ v_15.toInt ∧ v_15.toInt ≤ 2147483647) := ⟨i32_lo _, i32_hi _⟩
  have bv_20 : ((-2147483648) ≤ v_20.toInt ∧ v_20.toInt ≤ 2147483647) := ⟨i32_lo _, i32_hi _⟩
  have hpo0 := hpreo0 v_3 (by rw [hfo_1]; rfl)
  refine tk_getP (D := (dC, dI)) (ci := 11) (v := .ref a_2) (C := RX11) (T := TX11) (N := 19) hx hb hU inlX11 hown hK hP mo0 hfo_1 rfl 0 (by decide) (hU _ wd_13) (fun _ h9 => h9) rfl dX11_putNumber_8 ?_
  refine lv_aload_n hx hb dX11_putNumber_11 rfl (lv_at hl 1 rfl) ?_
  refine tk_getP (D := (dC, dI)) (ci := 11) (v := .int v_3) (C := RX11) (T := TX11) (N := 19) hx hb hU inlX11 hown hK hP mo0 hfo_1 rfl 1 (by decide) (hU _ wd_209) (fun _ h9 => h9) rfl dX11_putNumber_12 ?_
  refine lv_iload_n hx hb dX11_putNumber_15 rfl (lv_at hl 2 rfl) ?_
  refine lv_iload_n hx hb dX11_putNumber_16 rfl (lv_at hl 0 rfl) ?_
  refine lv_iushr hx hb dX11_putNumber_17 rfl ?_
  refine lv_topi (fun x_21 ex_21 => ?_)
  have bx_21 : ((-2147483648) ≤ x_21.toInt ∧ x_21.toInt ≤ 2147483647) := ⟨i32_lo _, i32_hi _⟩
  refine lv_sipush (v := 255) hx hb dX11_putNumber_18 (by decide) ?_
  refine lv_iand hx hb dX11_putNumber_21 ?_
  refine lv_topi (fun x_22 ex_22 => ?_)
  have bx_22 : (0 ≤ x_22.toInt ∧ x_22.toInt ≤ 255) := by rw [ex_22]; have h8 := an_C x_21 (m := 255) (by decide); rw [ti_255] at h8; exact h8
  obtain ⟨g_24, hfo_23, hbg_24⟩ := un_53 (hG _ ma_2) ka_2
  refine tk_istP hx hb hK hP hD hS 0 ma_2 hfo_23 rfl (vp_in_iff.mpr (by constructor <;> omega)) dX11_putNumber_22 (fun H locs hP hD hS => ?_)
  obtain ⟨f_25, ef_25⟩ : ∃ y : Nat → va_E, y = va_up f a_2 (.inl (cI, 600, .inl (upd g_24 (Int32.toNatClampNeg v_3) x_22))) := ⟨_, rfl⟩
  have hP : va_P (dC, dI) vwCl (va_pl L f_25) H := by rw [ef_25]; exact hP
  have hD : va_D (fun q => q ∈ L) (va_pl L f_25) := by rw [ef_25]; exact hD
  have hG : GI (okc cI cL cZ cR L kd) kd L f_25 := by rw [ef_25]; exact hG.set a_2 (mk_53 ka_2 ⟨_, rfl, okI_up hbg_24 ⟨i32_lo _, i32_hi _⟩ _⟩)
  have hfo_26 : f_25 o0 = .inr (11, [.ref a_2, .int v_3, .ref a_4, .ref a_5, .ref a_6, .ref a_7, .ref a_8, .ref a_9, .int v_10, .ref a_11, .ref a_12, .ref a_13, .int v_14, .int v_15, .ref a_16, .int v_17, .ref a_18, .ref a_19, .int v_20]) := by rw [ef_25, up_ne (kd_ne ka_2 ko0 (by decide))]; exact hfo_1
  have hfo_27 : f_25 a_2 = .inl (cI, 600, .inl (upd g_24 (Int32.toNatClampNeg v_3) x_22)) := by rw [ef_25]; exact up_self
  refine lv_aload_n hx hb dX11_putNumber_23 rfl (lv_at hl 1 rfl) ?_
  refine lv_dup hx hb dX11_putNumber_24 rfl ?_
  refine tk_getP (D := (dC, dI)) (ci := 11) (v := .int v_3) (C := RX11) (T := TX11) (N := 19) hx hb hU inlX11 hown hK hP mo0 hfo_26 rfl 1 (by decide) (hU _ wd_209) (fun _ h9 => h9) rfl dX11_putNumber_25 ?_
  refine lv_iconst (v := 1) hx hb dX11_putNumber_28 (by decide) ?_
  refine lv_iadd hx hb dX11_putNumber_29 ?_
  refine lv_topi (fun x_28 ex_28 => ?_)
  have hx_28 : x_28.toInt = v_3.toInt + 1 := by rw [ex_28, ad_I (by rw [ti_1]; omega) (by rw [ti_1]; omega), ti_1]
  have bx_28 : (1 ≤ x_28.toInt ∧ x_28.toInt ≤ 597) := by constructor <;> omega
  refine tk_putP (D := (dC, dI)) (ci := 11) (v := .int x_28) (ty := .int) (C := RX11) (T := TX11) (N := 19) hx hb hU inlX11 tyX11 tyX11_ok nmX11 hown hK hP hD hS mo0 hfo_26 rfl 1 (by decide) (hU _ wd_209) (fun _ h9 => h9) rfl (by decide +kernel) rfl rfl (Nat.le_of_ble_eq_true rfl) dX11_putNumber_30 (fun H locs hP hD hS => ?_)
  obtain ⟨f_29, ef_29⟩ : ∃ y : Nat → va_E, y = va_up f_25 o0 (.inr (11, [.ref a_2, .int x_28, .ref a_4, .ref a_5, .ref a_6, .ref a_7, .ref a_8, .ref a_9, .int v_10, .ref a_11, .ref a_12, .ref a_13, .int v_14, .int v_15, .ref a_16, .int v_17, .ref a_18, .ref a_19, .int v_20])) := ⟨_, rfl⟩
  have hP : va_P (dC, dI) vwCl (va_pl L f_29) H := by rw [ef_29]; exact hP
  have hD : va_D (fun q => q ∈ L) (va_pl L f_29) := by rw [ef_29]; exact hD
  have hG : GI (okc cI cL cZ cR L kd) kd L f_29 := by rw [ef_29]; exact hG.set o0 (mk_11 ko0 ⟨a_2, x_28, a_4, a_5, a_6, a_7, a_8, a_9, v_10, a_11, a_12, a_13, v_14, v_15, a_16, v_17, a_18, a_19, v_20, rfl, ⟨ma_2, ka_2⟩, (by constructor <;> omega), ⟨ma_4, ka_4⟩, ⟨ma_5, ka_5⟩, ⟨ma_6, ka_6⟩, ⟨ma_7, ka_7⟩, ⟨ma_8, ka_8⟩, ⟨ma_9, ka_9⟩, (by constructor <;> omega), ⟨ma_11, ka_11⟩, ⟨ma_12, ka_12⟩, ⟨ma_13, ka_13⟩, (by constructor <;> omega), ⟨ma_16, ka_16⟩, (by constructor <;> omega), ⟨ma_18, ka_18⟩, ⟨ma_19, ka_19⟩⟩)
  have hfo_30 : f_29 o0 = .inr (11, [.ref a_2, .int x_28, .ref a_4, .ref a_5, .ref a_6, .ref a_7, .ref a_8, .ref a_9, .int v_10, .ref a_11, .ref a_12, .ref a_13, .int v_14, .int v_15, .ref a_16, .int v_17, .ref a_18, .ref a_19, .int v_20]) := by rw [ef_29]; exact up_self
  refine lv_iinc (v := 16) (lv' := [(2, .int 16), (0, .ref o0), (1, .int p1)]) hx hb dX11_putNumber_33 hl (k := 0) rfl (by decide) (by decide) rfl (fun ls hl => ?_)
  refine lv_goto (tgt := 3) hx hb dX11_putNumber_36 (by decide) ?_
  refine lv_iload_n hx hb dX11_putNumber_3 rfl (lv_at hl 0 rfl) ?_
  refine lv_if_lt (tgt := 39) hx hb dX11_putNumber_4 (by decide) (fun c9 => absurd c9 (by decide)) (fun _ => ?_)
  refine lv_aload_n hx hb dX11_putNumber_7 rfl (lv_at hl 1 rfl) ?_
  refine tk_getP (D := (dC, dI)) (ci := 11) (v := .ref a_2) (C := RX11) (T := TX11) (N := 19) hx hb hU inlX11 hown hK hP mo0 hfo_30 rfl 0 (by decide) (hU _ wd_13) (fun _ h9 => h9) rfl dX11_putNumber_8 ?_
  refine lv_aload_n hx hb dX11_putNumber_11 rfl (lv_at hl 1 rfl) ?_
  refine tk_getP (D := (dC, dI)) (ci := 11) (v := .int x_28) (C := RX11) (T := TX11) (N := 19) hx hb hU inlX11 hown hK hP mo0 hfo_30 rfl 1 (by decide) (hU _ wd_209) (fun _ h9 => h9) rfl dX11_putNumber_12 ?_
  refine lv_iload_n hx hb dX11_putNumber_15 rfl (lv_at hl 2 rfl) ?_
  refine lv_iload_n hx hb dX11_putNumber_16 rfl (lv_at hl 0 rfl) ?_
  refine lv_iushr hx hb dX11_putNumber_17 rfl ?_
  refine lv_topi (fun x_31 ex_31 => ?_)
  have bx_31 : ((-2147483648) ≤ x_31.toInt ∧ x_31.toInt ≤ 2147483647) := ⟨i32_lo _, i32_hi _⟩
  refine lv_sipush (v := 255) hx hb dX11_putNumber_18 (by decide) ?_
  refine lv_iand hx hb dX11_putNumber_21 ?_
  refine lv_topi (fun x_32 ex_32 => ?_)
  have bx_32 : (0 ≤ x_32.toInt ∧ x_32.toInt ≤ 255) := by rw [ex_32]; have h8 := an_C x_31 (m := 255) (by decide); rw [ti_255] at h8; exact h8
  obtain ⟨g_34, hfo_33, hbg_34⟩ := un_53 (hG _ ma_2) ka_2
  refine tk_istP hx hb hK hP hD hS 0 ma_2 hfo_33 rfl (vp_in_iff.mpr (by constructor <;> omega)) dX11_putNumber_22 (fun H locs hP hD hS => ?_)
  obtain ⟨f_35, ef_35⟩ : ∃ y : Nat → va_E, y = va_up f_29 a_2 (.inl (cI, 600, .inl (upd g_34 (Int32.toNatClampNeg x_28) x_32))) := ⟨_, rfl⟩
  have hP : va_P (dC, dI) vwCl (va_pl L f_35) H := by rw [ef_35]; exact hP
  have hD : va_D (fun q => q ∈ L) (va_pl L f_35) := by rw [ef_35]; exact hD
  have hG : GI (okc cI cL cZ cR L kd) kd L f_35 := by rw [ef_35]; exact hG.set a_2 (mk_53 ka_2 ⟨_, rfl, okI_up hbg_34 ⟨i32_lo _, i32_hi _⟩ _⟩)
  have hfo_36 : f_35 o0 = .inr (11, [.ref a_2, .int x_28, .ref a_4, .ref a_5, .ref a_6, .ref a_7, .ref a_8, .ref a_9, .int v_10, .ref a_11, .ref a_12, .ref a_13, .int v_14, .int v_15, .ref a_16, .int v_17, .ref a_18, .ref a_19, .int v_20]) := by rw [ef_35, up_ne (kd_ne ka_2 ko0 (by decide))]; exact hfo_30
  have hfo_37 : f_35 a_2 = .inl (cI, 600, .inl (upd g_34 (Int32.toNatClampNeg x_28) x_32)) := by rw [ef_35]; exact up_self
  refine lv_aload_n hx hb dX11_putNumber_23 rfl (lv_at hl 1 rfl) ?_
  refine lv_dup hx hb dX11_putNumber_24 rfl ?_
  refine tk_getP (D := (dC, dI)) (ci := 11) (v := .int x_28) (C := RX11) (T := TX11) (N := 19) hx hb hU inlX11 hown hK hP mo0 hfo_36 rfl 1 (by decide) (hU _ wd_209) (fun _ h9 => h9) rfl dX11_putNumber_25 ?_
  refine lv_iconst (v := 1) hx hb dX11_putNumber_28 (by decide) ?_
  refine lv_iadd hx hb dX11_putNumber_29 ?_
  refine lv_topi (fun x_38 ex_38 => ?_)
  have hx_38 : x_38.toInt = x_28.toInt + 1 := by rw [ex_38, ad_I (by rw [ti_1]; omega) (by rw [ti_1]; omega), ti_1]
  have bx_38 : (2 ≤ x_38.toInt ∧ x_38.toInt ≤ 598) := by constructor <;> omega
  refine tk_putP (D := (dC, dI)) (ci := 11) (v := .int x_38) (ty := .int) (C := RX11) (T := TX11) (N := 19) hx hb hU inlX11 tyX11 tyX11_ok nmX11 hown hK hP hD hS mo0 hfo_36 rfl 1 (by decide) (hU _ wd_209) (fun _ h9 => h9) rfl (by decide +kernel) rfl rfl (Nat.le_of_ble_eq_true rfl) dX11_putNumber_30 (fun H locs hP hD hS => ?_)
  obtain ⟨f_39, ef_39⟩ : ∃ y : Nat → va_E, y = va_up f_35 o0 (.inr (11, [.ref a_2, .int x_38, .ref a_4, .ref a_5, .ref a_6, .ref a_7, .ref a_8, .ref a_9, .int v_10, .ref a_11, .ref a_12, .ref a_13, .int v_14, .int v_15, .ref a_16, .int v_17, .ref a_18, .ref a_19, .int v_20])) := ⟨_, rfl⟩
  have hP : va_P (dC, dI) vwCl (va_pl L f_39) H := by rw [ef_39]; exact hP
  have hD : va_D (fun q => q ∈ L) (va_pl L f_39) := by rw [ef_39]; exact hD
  have hG : GI (okc cI cL cZ cR L kd) kd L f_39 := by rw [ef_39]; exact hG.set o0 (mk_11 ko0 ⟨a_2, x_38, a_4, a_5, a_6, a_7, a_8, a_9, v_10, a_11, a_12, a_13, v_14, v_15, a_16, v_17, a_18, a_19, v_20, rfl, ⟨ma_2, ka_2⟩, (by constructor <;> omega), ⟨ma_4, ka_4⟩, ⟨ma_5, ka_5⟩, ⟨ma_6, ka_6⟩, ⟨ma_7, ka_7⟩, ⟨ma_8, ka_8⟩, ⟨ma_9, ka_9⟩, (by constructor <;> omega), ⟨ma_11, ka_11⟩, ⟨ma_12, ka_12⟩, ⟨ma_13, ka_13⟩, (by constructor <;> omega), ⟨ma_16, ka_16⟩, (by constructor <;> omega), ⟨ma_18, ka_18⟩, ⟨ma_19, ka_19⟩⟩)
  have hfo_40 : f_39 o0 = .inr (11, [.ref a_2, .int x_38, .ref a_4, .ref a_5, .ref a_6, .ref a_7, .ref a_8, .ref a_9, .int v_10, .ref a_11, .ref a_12, .ref a_13, .int v_14, .int v_15, .ref a_16, .int v_17, .ref a_18, .ref a_19, .int v_20]) := by rw [ef_39]; exact up_self
  refine lv_iinc (v := 8) (lv' := [(2, .int 8), (0, .ref o0), (1, .int p1)]) hx hb dX11_putNumber_33 hl (k := 0) rfl (by decide) (by decide) rfl (fun ls hl => ?_)
  refine lv_goto (tgt := 3) hx hb dX11_putNumber_36 (by decide) ?_
  refine lv_iload_n hx hb dX11_putNumber_3 rfl (lv_at hl 0 rfl) ?_
  refine lv_if_lt (tgt := 39) hx hb dX11_putNumber_4 (by decide) (fun c9 => absurd c9 (by decide)) (fun _ => ?_)
  refine lv_aload_n hx hb dX11_putNumber_7 rfl (lv_at hl 1 rfl) ?_
  refine tk_getP (D := (dC, dI)) (ci := 11) (v := .ref a_2) (C := RX11) (T := TX11) (N := 19) hx hb hU inlX11 hown hK hP mo0 hfo_40 rfl 0 (by decide) (hU _ wd_13) (fun _ h9 => h9) rfl dX11_putNumber_8 ?_
  refine lv_aload_n hx hb dX11_putNumber_11 rfl (lv_at hl 1 rfl) ?_
  refine tk_getP (D := (dC, dI)) (ci := 11) (v := .int x_38) (C := RX11) (T := TX11) (N := 19) hx hb hU inlX11 hown hK hP mo0 hfo_40 rfl 1 (by decide) (hU _ wd_209) (fun _ h9 => h9) rfl dX11_putNumber_12 ?_
  refine lv_iload_n hx hb dX11_putNumber_15 rfl (lv_at hl 2 rfl) ?_
  refine lv_iload_n hx hb dX11_putNumber_16 rfl (lv_at hl 0 rfl) ?_
  refine lv_iushr hx hb dX11_putNumber_17 rfl ?_
  refine lv_topi (fun x_41 ex_41 => ?_)
  have bx_41 : ((-2147483648) ≤ x_41.toInt ∧ x_41.toInt ≤ 2147483647) := ⟨i32_lo _, i32_hi _⟩
  refine lv_sipush (v := 255) hx hb dX11_putNumber_18 (by decide) ?_
  refine lv_iand hx hb dX11_putNumber_21 ?_
  refine lv_topi (fun x_42 ex_42 => ?_)
  have bx_42 : (0 ≤ x_42.toInt ∧ x_42.toInt ≤ 255) := by rw [ex_42]; have h8 := an_C x_41 (m := 255) (by decide); rw [ti_255] at h8; exact h8
  obtain ⟨g_44, hfo_43, hbg_44⟩ := un_53 (hG _ ma_2) ka_2
  refine tk_istP hx hb hK hP hD hS 0 ma_2 hfo_43 rfl (vp_in_iff.mpr (by constructor <;> omega)) dX11_putNumber_22 (fun H locs hP hD hS => ?_)
  obtain ⟨f_45, ef_45⟩ : ∃ y : Nat → va_E, y = va_up f_39 a_2 (.inl (cI, 600, .inl (upd g_44 (Int32.toNatClampNeg x_38) x_42))) := ⟨_, rfl⟩
  have hP : va_P (dC, dI) vwCl (va_pl L f_45) H := by rw [ef_45]; exact hP
  have hD : va_D (fun q => q ∈ L) (va_pl L f_45) := by rw [ef_45]; exact hD
  have hG : GI (okc cI cL cZ cR L kd) kd L f_45 := by rw [ef_45]; exact hG.set a_2 (mk_53 ka_2 ⟨_, rfl, okI_up hbg_44 ⟨i32_lo _, i32_hi _⟩ _⟩)
  have hfo_46 : f_45 o0 = .inr (11, [.ref a_2, .int x_38, .ref a_4, .ref a_5, .ref a_6, .ref a_7, .ref a_8, .ref a_9, .int v_10, .ref a_11, .ref a_12, .ref a_13, .int v_14, .int v_15, .ref a_16, .int v_17, .ref a_18, .ref a_19, .int v_20]) := by rw [ef_45, up_ne (kd_ne ka_2 ko0 (by decide))]; exact hfo_40
  have hfo_47 : f_45 a_2 = .inl (cI, 600, .inl (upd g_44 (Int32.toNatClampNeg x_38) x_42)) := by rw [ef_45]; exact up_self
  refine lv_aload_n hx hb dX11_putNumber_23 rfl (lv_at hl 1 rfl) ?_
  refine lv_dup hx hb dX11_putNumber_24 rfl ?_
  refine tk_getP (D := (dC, dI)) (ci := 11) (v := .int x_38) (C := RX11) (T := TX11) (N := 19) hx hb hU inlX11 hown hK hP mo0 hfo_46 rfl 1 (by decide) (hU _ wd_209) (fun _ h9 => h9) rfl dX11_putNumber_25 ?_
  refine lv_iconst (v := 1) hx hb dX11_putNumber_28 (by decide) ?_
  refine lv_iadd hx hb dX11_putNumber_29 ?_
  refine lv_topi (fun x_48 ex_48 => ?_)
  have hx_48 : x_48.toInt = x_38.toInt + 1 := by rw [ex_48, ad_I (by rw [ti_1]; omega) (by rw [ti_1]; omega), ti_1]
  have bx_48 : (3 ≤ x_48.toInt ∧ x_48.toInt ≤ 599) := by constructor <;> omega
  refine tk_putP (D := (dC, dI)) (ci := 11) (v := .int x_48) (ty := .int) (C := RX11) (T := TX11) (N := 19) hx hb hU inlX11 tyX11 tyX11_ok nmX11 hown hK hP hD hS mo0 hfo_46 rfl 1 (by decide) (hU _ wd_209) (fun _ h9 => h9) rfl (by decide +kernel) rfl rfl (Nat.le_of_ble_eq_true rfl) dX11_putNumber_30 (fun H locs hP hD hS => ?_)
  obtain ⟨f_49, ef_49⟩ : ∃ y : Nat → va_E, y = va_up f_45 o0 (.inr (11, [.ref a_2, .int x_48, .ref a_4, .ref a_5, .ref a_6, .ref a_7, .ref a_8, .ref a_9, .int v_10, .ref a_11, .ref a_12, .ref a_13, .int v_14, .int v_15, .ref a_16, .int v_17, .ref a_18, .ref a_19, .int v_20])) := ⟨_, rfl⟩
  have hP : va_P (dC, dI) vwCl (va_pl L f_49) H := by rw [ef_49]; exact hP
  have hD : va_D (fun q => q ∈ L) (va_pl L f_49) := by rw [ef_49]; exact hD
  have hG : GI (okc cI cL cZ cR L kd) kd L f_49 := by rw [ef_49]; exact hG.set o0 (mk_11 ko0 ⟨a_2, x_48, a_4, a_5, a_6, a_7, a_8, a_9, v_10, a_11, a_12, a_13, v_14, v_15, a_16, v_17, a_18, a_19, v_20, rfl, ⟨ma_2, ka_2⟩, (by constructor <;> omega), ⟨ma_4, ka_4⟩, ⟨ma_5, ka_5⟩, ⟨ma_6, ka_6⟩, ⟨ma_7, ka_7⟩, ⟨ma_8, ka_8⟩, ⟨ma_9, ka_9⟩, (by constructor <;> omega), ⟨ma_11, ka_11⟩, ⟨ma_12, ka_12⟩, ⟨ma_13, ka_13⟩, (by constructor <;> omega), ⟨ma_16, ka_16⟩, (by constructor <;> omega), ⟨ma_18, ka_18⟩, ⟨ma_19, ka_19⟩⟩)
  have hfo_50 : f_49 o0 = .inr (11, [.ref a_2, .int x_48, .ref a_4, .ref a_5, .ref a_6, .ref a_7, .ref a_8, .ref a_9, .int v_10, .ref a_11, .ref a_12, .ref a_13, .int v_14, .int v_15, .ref a_16, .int v_17, .ref a_18, .ref a_19, .int v_20]) := by rw [ef_49]; exact up_self
  refine lv_iinc (v := 0) (lv' := [(2, .int 0), (0, .ref o0), (1, .int p1)]) hx hb dX11_putNumber_33 hl (k := 0) rfl (by decide) (by decide) rfl (fun ls hl => ?_)
  refine lv_goto (tgt := 3) hx hb dX11_putNumber_36 (by decide) ?_
  refine lv_iload_n hx hb dX11_putNumber_3 rfl (lv_at hl 0 rfl) ?_
  refine lv_if_lt (tgt := 39) hx hb dX11_putNumber_4 (by decide) (fun c9 => absurd c9 (by decide)) (fun _ => ?_)
  refine lv_aload_n hx hb dX11_putNumber_7 rfl (lv_at hl 1 rfl) ?_
  refine tk_getP (D := (dC, dI)) (ci := 11) (v := .ref a_2) (C := RX11) (T := TX11) (N := 19) hx hb hU inlX11 hown hK hP mo0 hfo_50 rfl 0 (by decide) (hU _ wd_13) (fun _ h9 => h9) rfl dX11_putNumber_8 ?_
  refine lv_aload_n hx hb dX11_putNumber_11 rfl (lv_at hl 1 rfl) ?_
  refine tk_getP (D := (dC, dI)) (ci := 11) (v := .int x_48) (C := RX11) (T := TX11) (N := 19) hx hb hU inlX11 hown hK hP mo0 hfo_50 rfl 1 (by decide) (hU _ wd_209) (fun _ h9 => h9) rfl dX11_putNumber_12 ?_
  refine lv_iload_n hx hb dX11_putNumber_15 rfl (lv_at hl 2 rfl) ?_
  refine lv_iload_n hx hb dX11_putNumber_16 rfl (lv_at hl 0 rfl) ?_
  refine lv_iushr hx hb dX11_putNumber_17 rfl ?_
  refine lv_topi (fun x_51 ex_51 => ?_)
  have bx_51 : ((-2147483648) ≤ x_51.toInt ∧ x_51.toInt ≤ 2147483647) := ⟨i32_lo _, i32_hi _⟩
  refine lv_sipush (v := 255) hx hb dX11_putNumber_18 (by decide) ?_
  refine lv_iand hx hb dX11_putNumber_21 ?_
  refine lv_topi (fun x_52 ex_52 => ?_)
  have bx_52 : (0 ≤ x_52.toInt ∧ x_52.toInt ≤ 255) := by rw [ex_52]; have h8 := an_C x_51 (m := 255) (by decide); rw [ti_255] at h8; exact h8
  obtain ⟨g_54, hfo_53, hbg_54⟩ := un_53 (hG _ ma_2) ka_2
  refine tk_istP hx hb hK hP hD hS 0 ma_2 hfo_53 rfl (vp_in_iff.mpr (by constructor <;> omega)) dX11_putNumber_22 (fun H locs hP hD hS => ?_)
  obtain ⟨f_55, ef_55⟩ : ∃ y : Nat → va_E, y = va_up f_49 a_2 (.inl (cI, 600, .inl (upd g_54 (Int32.toNatClampNeg x_48) x_52))) := ⟨_, rfl⟩
  have hP : va_P (dC, dI) vwCl (va_pl L f_55) H := by rw [ef_55]; exact hP
  have hD : va_D (fun q => q ∈ L) (va_pl L f_55) := by rw [ef_55]; exact hD
  have hG : GI (okc cI cL cZ cR L kd) kd L f_55 := by rw [ef_55]; exact hG.set a_2 (mk_53 ka_2 ⟨_, rfl, okI_up hbg_54 ⟨i32_lo _, i32_hi _⟩ _⟩)
  have hfo_56 : f_55 o0 = .inr (11, [.ref a_2, .int x_48, .ref a_4, .ref a_5, .ref a_6, .ref a_7, .ref a_8, .ref a_9, .int v_10, .ref a_11, .ref a_12, .ref a_13, .int v_14, .int v_15, .ref a_16, .int v_17, .ref a_18, .ref a_19, .int v_20]) := by rw [ef_55, up_ne (kd_ne ka_2 ko0 (by decide))]; exact hfo_50
  have hfo_57 : f_55 a_2 = .inl (cI, 600, .inl (upd g_54 (Int32.toNatClampNeg x_48) x_52)) := by rw [ef_55]; exact up_self
  refine lv_aload_n hx hb dX11_putNumber_23 rfl (lv_at hl 1 rfl) ?_
  refine lv_dup hx hb dX11_putNumber_24 rfl ?_
  refine tk_getP (D := (dC, dI)) (ci := 11) (v := .int x_48) (C := RX11) (T := TX11) (N := 19) hx hb hU inlX11 hown hK hP mo0 hfo_56 rfl 1 (by decide) (hU _ wd_209) (fun _ h9 => h9) rfl dX11_putNumber_25 ?_
  refine lv_iconst (v := 1) hx hb dX11_putNumber_28 (by decide) ?_
  refine lv_iadd hx hb dX11_putNumber_29 ?_
  refine lv_topi (fun x_58 ex_58 => ?_)
  have hx_58 : x_58.toInt = x_48.toInt + 1 := by rw [ex_58, ad_I (by rw [ti_1]; omega) (by rw [ti_1]; omega), ti_1]
  have bx_58 : (4 ≤ x_58.toInt ∧ x_58.toInt ≤ 600) := by constructor <;> omega
  refine tk_putP (D := (dC, dI)) (ci := 11) (v := .int x_58) (ty := .int) (C := RX11) (T := TX11) (N := 19) hx hb hU inlX11 tyX11 tyX11_ok nmX11 hown hK hP hD hS mo0 hfo_56 rfl 1 (by decide) (hU _ wd_209) (fun _ h9 => h9) rfl (by decide +kernel) rfl rfl (Nat.le_of_ble_eq_true rfl) dX11_putNumber_30 (fun H locs hP hD hS => ?_)
  obtain ⟨f_59, ef_59⟩ : ∃ y : Nat → va_E, y = va_up f_55 o0 (.inr (11, [.ref a_2, .int x_58, .ref a_4, .ref a_5, .ref a_6, .ref a_7, .ref a_8, .ref a_9, .int v_10, .ref a_11, .ref a_12, .ref a_13, .int v_14, .int v_15, .ref a_16, .int v_17, .ref a_18, .ref a_19, .int v_20])) := ⟨_, rfl⟩
  have hP : va_P (dC, dI) vwCl (va_pl L f_59) H := by rw [ef_59]; exact hP
  have hD : va_D (fun q => q ∈ L) (va_pl L f_59) := by rw [ef_59]; exact hD
  have hG : GI (okc cI cL cZ cR L kd) kd L f_59 := by rw [ef_59]; exact hG.set o0 (mk_11 ko0 ⟨a_2, x_58, a_4, a_5, a_6, a_7, a_8, a_9, v_10, a_11, a_12, a_13, v_14, v_15, a_16, v_17, a_18, a_19, v_20, rfl, ⟨ma_2, ka_2⟩, (by constructor <;> omega), ⟨ma_4, ka_4⟩, ⟨ma_5, ka_5⟩, ⟨ma_6, ka_6⟩, ⟨ma_7, ka_7⟩, ⟨ma_8, ka_8⟩, ⟨ma_9, ka_9⟩, (by constructor <;> omega), ⟨ma_11, ka_11⟩, ⟨ma_12, ka_12⟩, ⟨ma_13, ka_13⟩, (by constructor <;> omega), ⟨ma_16, ka_16⟩, (by constructor <;> omega), ⟨ma_18, ka_18⟩, ⟨ma_19, ka_19⟩⟩)
  have hfo_60 : f_59 o0 = .inr (11, [.ref a_2, .int x_58, .ref a_4, .ref a_5, .ref a_6, .ref a_7, .ref a_8, .ref a_9, .int v_10, .ref a_11, .ref a_12, .ref a_13, .int v_14, .int v_15, .ref a_16, .int v_17, .ref a_18, .ref a_19, .int v_20]) := by rw [ef_59]; exact up_self
  refine lv_iinc (v := (-8)) (lv' := [(2, .int (-8)), (0, .ref o0), (1, .int p1)]) hx hb dX11_putNumber_33 hl (k := 0) rfl (by decide) (by decide) rfl (fun ls hl => ?_)
  refine lv_goto (tgt := 3) hx hb dX11_putNumber_36 (by decide) ?_
  refine lv_iload_n hx hb dX11_putNumber_3 rfl (lv_at hl 0 rfl) ?_
  refine lv_if_lt (tgt := 39) hx hb dX11_putNumber_4 (by decide) (fun _ => ?_) (fun c9 => absurd (by decide) c9)
  exact W.vret hx hb hr (fun t ht hW => ⟨⟨f_59, rfl, ⟨hG, (by intro w1 z1 e1 d1; rw [hfo_1] at e1; rw [hfo_60] at d1; cases e1; cases d1; omega)⟩, by rw [ht]; exact hP, va_K.moved hW.alike hK, pl_in hD⟩, hS.F ht⟩) hS.2.2 dX11_putNumber_39
