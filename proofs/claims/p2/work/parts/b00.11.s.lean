set_option maxHeartbeats 8000000 in
set_option maxRecDepth 100000 in
theorem s_J6_bitCount_0f7a4 (l : Launch) (D : va_G) (cI cL cZ cR cG cH : ClassId) (Z : zT) (kd : Nat → Nat) (L : List Nat) (f : Nat → va_E) (hG : GI (okc cI cL cZ cR cG cH L kd) kd L f) (p0 : Int32) : mPI l D cI cL cZ cR cG cH Z yJ6_bitCount_0f7a4 cJ6_bitCount_0f7a4 1 (some .int) 0 0 [.int p0] L f (fun (r : Int32) (f9 : Nat → va_E) => f = f9 ∧ (0 ≤ r.toInt ∧ r.toInt ≤ 63)) := by
  obtain ⟨dC, dI⟩ := D
  refine Met.ofW (cc := cJ6_bitCount_0f7a4) (maxL := 1) (ret := (some .int)) (by decide) rfl ?_
  intro p e s m args below meth c s₁ B hml hv
  obtain ⟨rfl, hP, hK, hD0, hN, hZ⟩ := hv
  have hx := B.exec
  have hb := B.bytes
  have hr := B.returns
  have hU : ∀ w ∈ wsU, w.before _ s = true := fun w h => atoms_spec (ws := wU yJ6_bitCount_0f7a4 cJ6_bitCount_0f7a4 1 (some .int)) B.pre w (List.mem_cons_of_mem _ h)
  have hown : s.vm.findClass RJ6 = some m.cls := findClass_of_methodNamed B.named
  have hlocks := B.notSynchronized
  have hD := pl_in hD0
  have hS : va_S (fun q => q ∈ L) s.heap s.heap [] := va_S.rf
  have hl := lv_entry ([.int p0]) (n := 1) (Nat.le_of_ble_eq_true rfl)
  rw [lg_entry_eq]
  generalize (lg_sl ([.int p0]) ++ List.replicate (1 - (lg_sl ([.int p0])).length) Slot.unset).toArray = ls at hl ⊢
  have hl : lv_has ls 1 [(0, .int p0)] := hl
  have bp0 : ((-2147483648) ≤ p0.toInt ∧ p0.toInt ≤ 2147483647) := ⟨i32_lo _, i32_hi _⟩
  refine lv_iload_n hx hb dJ6_bitCount_0f7a4_0 rfl (lv_at hl 0 rfl) ?_
  refine lv_iload_n hx hb dJ6_bitCount_0f7a4_1 rfl (lv_at hl 0 rfl) ?_
  refine lv_iconst (v := 1) hx hb dJ6_bitCount_0f7a4_2 (by decide) ?_
  refine lv_iushr hx hb dJ6_bitCount_0f7a4_3 rfl ?_
  refine lv_topi (fun x_1 ex_1 => ?_)
  have bx_1 : ((-2147483648) ≤ x_1.toInt ∧ x_1.toInt ≤ 2147483647) := ⟨i32_lo _, i32_hi _⟩
  refine lv_ldcw (v := 1431655765) hx hb hown (hU _ wd_1187) dJ6_bitCount_0f7a4_4 ?_
  refine lv_iand hx hb dJ6_bitCount_0f7a4_7 ?_
  refine lv_topi (fun x_2 ex_2 => ?_)
  have bx_2 : (0 ≤ x_2.toInt ∧ x_2.toInt ≤ 1431655765) := by rw [ex_2]; have h8 := an_C x_1 (m := 1431655765) (by decide); rw [ti_1431655765] at h8; exact h8
  refine lv_isub hx hb dJ6_bitCount_0f7a4_8 ?_
  refine lv_topi (fun x_3 ex_3 => ?_)
  have bx_3 : ((-2147483648) ≤ x_3.toInt ∧ x_3.toInt ≤ 2147483647) := ⟨i32_lo _, i32_hi _⟩
  refine lv_istore_n (lv' := [(0, .int x_3)]) hx hb dJ6_bitCount_0f7a4_9 rfl hl (by decide) rfl (fun ls hl => ?_)
  refine lv_iload_n hx hb dJ6_bitCount_0f7a4_10 rfl (lv_at hl 0 rfl) ?_
  refine lv_ldcw (v := 858993459) hx hb hown (hU _ wd_1188) dJ6_bitCount_0f7a4_11 ?_
  refine lv_iand hx hb dJ6_bitCount_0f7a4_14 ?_
  refine lv_topi (fun x_4 ex_4 => ?_)
  have bx_4 : (0 ≤ x_4.toInt ∧ x_4.toInt ≤ 858993459) := by rw [ex_4]; have h8 := an_C x_3 (m := 858993459) (by decide); rw [ti_858993459] at h8; exact h8
  refine lv_iload_n hx hb dJ6_bitCount_0f7a4_15 rfl (lv_at hl 0 rfl) ?_
  refine lv_iconst (v := 2) hx hb dJ6_bitCount_0f7a4_16 (by decide) ?_
  refine lv_iushr hx hb dJ6_bitCount_0f7a4_17 rfl ?_
  refine lv_topi (fun x_5 ex_5 => ?_)
  have bx_5 : ((-2147483648) ≤ x_5.toInt ∧ x_5.toInt ≤ 2147483647) := ⟨i32_lo _, i32_hi _⟩
  refine lv_ldcw (v := 858993459) hx hb hown (hU _ wd_1188) dJ6_bitCount_0f7a4_18 ?_
  refine lv_iand hx hb dJ6_bitCount_0f7a4_21 ?_
  refine lv_topi (fun x_6 ex_6 => ?_)
  have bx_6 : (0 ≤ x_6.toInt ∧ x_6.toInt ≤ 858993459) := by rw [ex_6]; have h8 := an_C x_5 (m := 858993459) (by decide); rw [ti_858993459] at h8; exact h8
  refine lv_iadd hx hb dJ6_bitCount_0f7a4_22 ?_
  refine lv_topi (fun x_7 ex_7 => ?_)
  have hx_7 : x_7.toInt = x_4.toInt + x_6.toInt := by rw [ex_7, ad_I (by omega) (by omega)]
  have bx_7 : (0 ≤ x_7.toInt ∧ x_7.toInt ≤ 1717986918) := by constructor <;> omega
  refine lv_istore_n (lv' := [(0, .int x_7)]) hx hb dJ6_bitCount_0f7a4_23 rfl hl (by decide) rfl (fun ls hl => ?_)
  refine lv_iload_n hx hb dJ6_bitCount_0f7a4_24 rfl (lv_at hl 0 rfl) ?_
  refine lv_iload_n hx hb dJ6_bitCount_0f7a4_25 rfl (lv_at hl 0 rfl) ?_
  refine lv_iconst (v := 4) hx hb dJ6_bitCount_0f7a4_26 (by decide) ?_
  refine lv_iushr hx hb dJ6_bitCount_0f7a4_27 rfl ?_
  refine lv_topi (fun x_8 ex_8 => ?_)
  have bx_8 : ((-2147483648) ≤ x_8.toInt ∧ x_8.toInt ≤ 2147483647) := ⟨i32_lo _, i32_hi _⟩
  refine lv_iadd hx hb dJ6_bitCount_0f7a4_28 ?_
  refine lv_topi (fun x_9 ex_9 => ?_)
  have bx_9 : ((-2147483648) ≤ x_9.toInt ∧ x_9.toInt ≤ 2147483647) := ⟨i32_lo _, i32_hi _⟩
  refine lv_ldcw (v := 252645135) hx hb hown (hU _ wd_1189) dJ6_bitCount_0f7a4_29 ?_
  refine lv_iand hx hb dJ6_bitCount_0f7a4_32 ?_
  refine lv_topi (fun x_10 ex_10 => ?_)
  have bx_10 : (0 ≤ x_10.toInt ∧ x_10.toInt ≤ 252645135) := by rw [ex_10]; have h8 := an_C x_9 (m := 252645135) (by decide); rw [ti_252645135] at h8; exact h8
  refine lv_istore_n (lv' := [(0, .int x_10)]) hx hb dJ6_bitCount_0f7a4_33 rfl hl (by decide) rfl (fun ls hl => ?_)
  refine lv_iload_n hx hb dJ6_bitCount_0f7a4_34 rfl (lv_at hl 0 rfl) ?_
  refine lv_iload_n hx hb dJ6_bitCount_0f7a4_35 rfl (lv_at hl 0 rfl) ?_
  refine lv_bipush (v := 8) hx hb dJ6_bitCount_0f7a4_36 (by decide) ?_
  refine lv_iushr hx hb dJ6_bitCount_0f7a4_38 rfl ?_
  refine lv_topi (fun x_11 ex_11 => ?_)
  have bx_11 : ((-2147483648) ≤ x_11.toInt ∧ x_11.toInt ≤ 2147483647) := ⟨i32_lo _, i32_hi _⟩
  refine lv_iadd hx hb dJ6_bitCount_0f7a4_39 ?_
  refine lv_topi (fun x_12 ex_12 => ?_)
  have bx_12 : ((-2147483648) ≤ x_12.toInt ∧ x_12.toInt ≤ 2147483647) := ⟨i32_lo _, i32_hi _⟩
  refine lv_istore_n (lv' := [(0, .int x_12)]) hx hb dJ6_bitCount_0f7a4_40 rfl hl (by decide) rfl (fun ls hl => ?_)
  refine lv_iload_n hx hb dJ6_bitCount_0f7a4_41 rfl (lv_at hl 0 rfl) ?_
  refine lv_iload_n hx hb dJ6_bitCount_0f7a4_42 rfl (lv_at hl 0 rfl) ?_
  refine lv_bipush (v := 16) hx hb dJ6_bitCount_0f7a4_43 (by decide) ?_
  refine lv_iushr hx hb dJ6_bitCount_0f7a4_45 rfl ?_
  refine lv_topi (fun x_13 ex_13 => ?_)
  have bx_13 : ((-2147483648) ≤ x_13.toInt ∧ x_13.toInt ≤ 2147483647) := ⟨i32_lo _, i32_hi _⟩
  refine lv_iadd hx hb dJ6_bitCount_0f7a4_46 ?_
  refine lv_topi (fun x_14 ex_14 => ?_)
  have bx_14 : ((-2147483648) ≤ x_14.toInt ∧ x_14.toInt ≤ 2147483647) := ⟨i32_lo _, i32_hi _⟩
  refine lv_istore_n (lv' := [(0, .int x_14)]) hx hb dJ6_bitCount_0f7a4_47 rfl hl (by decide) rfl (fun ls hl => ?_)
  refine lv_iload_n hx hb dJ6_bitCount_0f7a4_48 rfl (lv_at hl 0 rfl) ?_
  refine lv_bipush (v := 63) hx hb dJ6_bitCount_0f7a4_49 (by decide) ?_
  refine lv_iand hx hb dJ6_bitCount_0f7a4_51 ?_
  refine lv_topi (fun x_15 ex_15 => ?_)
  have bx_15 : (0 ≤ x_15.toInt ∧ x_15.toInt ≤ 63) := by rw [ex_15]; have h8 := an_C x_14 (m := 63) (by decide); rw [ti_63] at h8; exact h8
  exact W.iret (v := x_15) hx hb hr (fun t ht hW => ⟨⟨x_15, f, rfl, ⟨rfl, (by constructor <;> omega)⟩, by rw [ht]; exact hP, va_K.moved hW.alike hK, pl_in hD⟩, hS.F ht⟩) hS.2.2 dJ6_bitCount_0f7a4_52
set_option maxHeartbeats 8000000 in
set_option maxRecDepth 100000 in
theorem s_X5_holding (l : Launch) (D : va_G) (cI cL cZ cR cG cH : ClassId) (Z : zT) (kd : Nat → Nat) (L : List Nat) (f : Nat → va_E) (hG : GI (okc cI cL cZ cR cG cH L kd) kd L f) (p0 : Int32) : mPI l D cI cL cZ cR cG cH Z yX5_holding cX5_holding 1 (some .int) 0 0 [.int p0] L f (fun (r : Int32) (f9 : Nat → va_E) => f = f9 ∧ (0 ≤ r.toInt ∧ r.toInt ≤ 7)) := by
  obtain ⟨dC, dI⟩ := D
  refine Met.ofW (cc := cX5_holding) (maxL := 1) (ret := (some .int)) (by decide) rfl ?_
  intro p e s m args below meth c s₁ B hml hv
  obtain ⟨rfl, hP, hK, hD0, hN, hZ⟩ := hv
  have hx := B.exec
  have hb := B.bytes
  have hr := B.returns
  have hU : ∀ w ∈ wsU, w.before _ s = true := fun w h => atoms_spec (ws := wU yX5_holding cX5_holding 1 (some .int)) B.pre w (List.mem_cons_of_mem _ h)
  have hown : s.vm.findClass RX5 = some m.cls := findClass_of_methodNamed B.named
  have hlocks := B.notSynchronized
  have hD := pl_in hD0
  have hS : va_S (fun q => q ∈ L) s.heap s.heap [] := va_S.rf
  have hl := lv_entry ([.int p0]) (n := 1) (Nat.le_of_ble_eq_true rfl)
  rw [lg_entry_eq]
  generalize (lg_sl ([.int p0]) ++ List.replicate (1 - (lg_sl ([.int p0])).length) Slot.unset).toArray = ls at hl ⊢
  have hl : lv_has ls 1 [(0, .int p0)] := hl
  have bp0 : ((-2147483648) ≤ p0.toInt ∧ p0.toInt ≤ 2147483647) := ⟨i32_lo _, i32_hi _⟩
  refine lv_iload_n hx hb dX5_holding_0 rfl (lv_at hl 0 rfl) ?_
  refine lv_iconst (v := 5) hx hb dX5_holding_1 (by decide) ?_
  refine lv_ishr hx hb dX5_holding_2 ?_
  refine lv_topi (fun x_1 ex_1 => ?_)
  have bx_1 : ((-2147483648) ≤ x_1.toInt ∧ x_1.toInt ≤ 2147483647) := ⟨i32_lo _, i32_hi _⟩
  refine lv_iconst (v := 1) hx hb dX5_holding_3 (by decide) ?_
  refine lv_iand hx hb dX5_holding_4 ?_
  refine lv_topi (fun x_2 ex_2 => ?_)
  have bx_2 : (0 ≤ x_2.toInt ∧ x_2.toInt ≤ 1) := by rw [ex_2]; have h8 := an_C x_1 (m := 1) (by decide); rw [ti_1] at h8; exact h8
  refine lv_iload_n hx hb dX5_holding_5 rfl (lv_at hl 0 rfl) ?_
  refine lv_bipush (v := 10) hx hb dX5_holding_6 (by decide) ?_
  refine lv_ishr hx hb dX5_holding_8 ?_
  refine lv_topi (fun x_3 ex_3 => ?_)
  have bx_3 : ((-2147483648) ≤ x_3.toInt ∧ x_3.toInt ≤ 2147483647) := ⟨i32_lo _, i32_hi _⟩
  refine lv_iconst (v := 2) hx hb dX5_holding_9 (by decide) ?_
  refine lv_iand hx hb dX5_holding_10 ?_
  refine lv_topi (fun x_4 ex_4 => ?_)
  have bx_4 : (0 ≤ x_4.toInt ∧ x_4.toInt ≤ 2) := by rw [ex_4]; have h8 := an_C x_3 (m := 2) (by decide); rw [ti_2] at h8; exact h8
  refine lv_ior hx hb dX5_holding_11 ?_
  refine lv_topi (fun x_5 ex_5 => ?_)
  have bx_5 : (0 ≤ x_5.toInt ∧ x_5.toInt ≤ 3) := by rw [ex_5]; exact or_K 2 (by decide) (by constructor <;> omega) (by constructor <;> omega)
  refine lv_iload_n hx hb dX5_holding_12 rfl (lv_at hl 0 rfl) ?_
  refine lv_bipush (v := 15) hx hb dX5_holding_13 (by decide) ?_
  refine lv_ishr hx hb dX5_holding_15 ?_
  refine lv_topi (fun x_6 ex_6 => ?_)
  have bx_6 : ((-2147483648) ≤ x_6.toInt ∧ x_6.toInt ≤ 2147483647) := ⟨i32_lo _, i32_hi _⟩
  refine lv_iconst (v := 4) hx hb dX5_holding_16 (by decide) ?_
  refine lv_iand hx hb dX5_holding_17 ?_
  refine lv_topi (fun x_7 ex_7 => ?_)
  have bx_7 : (0 ≤ x_7.toInt ∧ x_7.toInt ≤ 4) := by rw [ex_7]; have h8 := an_C x_6 (m := 4) (by decide); rw [ti_4] at h8; exact h8
  refine lv_ior hx hb dX5_holding_18 ?_
  refine lv_topi (fun x_8 ex_8 => ?_)
  have bx_8 : (0 ≤ x_8.toInt ∧ x_8.toInt ≤ 7) := by rw [ex_8]; exact or_K 3 (by decide) (by constructor <;> omega) (by constructor <;> omega)
  exact W.iret (v := x_8) hx hb hr (fun t ht hW => ⟨⟨x_8, f, rfl, ⟨rfl, (by constructor <;> omega)⟩, by rw [ht]; exact hP, va_K.moved hW.alike hK, pl_in hD⟩, hS.F ht⟩) hS.2.2 dX5_holding_19
set_option maxHeartbeats 8000000 in
set_option maxRecDepth 100000 in
theorem s_X5_closure_k5 (l : Launch) (D : va_G) (cI cL cZ cR cG cH : ClassId) (Z : zT) (kd : Nat → Nat) (L : List Nat) (f : Nat → va_E) (hG : GI (okc cI cL cZ cR cG cH L kd) kd L f) (o0 : Nat) (mo0 : o0 ∈ L) (ko0 : kd o0 = 5) (p1 : Int32) : mPI l D cI cL cZ cR cG cH Z yX5_closure cX5_closure 2 (some .int) 0 0 [.ref o0, .int p1] L f (fun (r : Int32) (f9 : Nat → va_E) => f = f9 ∧ ((-2147483648) ≤ r.toInt ∧ r.toInt ≤ 2147483647)) := by
  obtain ⟨dC, dI⟩ := D
  refine Met.ofW (cc := cX5_closure) (maxL := 2) (ret := (some .int)) (by decide) rfl ?_
  intro p e s m args below meth c s₁ B hml hv
  obtain ⟨rfl, hP, hK, hD0, hN, hZ⟩ := hv
  have hx := B.exec
  have hb := B.bytes
  have hr := B.returns
  have hU : ∀ w ∈ wsU, w.before _ s = true := fun w h => atoms_spec (ws := wU yX5_closure cX5_closure 2 (some .int)) B.pre w (List.mem_cons_of_mem _ h)
  have hown : s.vm.findClass RX5 = some m.cls := findClass_of_methodNamed B.named
  have hlocks := B.notSynchronized
  have hD := pl_in hD0
  have hS : va_S (fun q => q ∈ L) s.heap s.heap [] := va_S.rf
  have hl := lv_entry ([.ref o0, .int p1]) (n := 2) (Nat.le_of_ble_eq_true rfl)
  rw [lg_entry_eq]
  generalize (lg_sl ([.ref o0, .int p1]) ++ List.replicate (2 - (lg_sl ([.ref o0, .int p1])).length) Slot.unset).toArray = ls at hl ⊢
  have hl : lv_has ls 2 [(0, .ref o0), (1, .int p1)] := hl
  have bp1 : ((-2147483648) ≤ p1.toInt ∧ p1.toInt ≤ 2147483647) := ⟨i32_lo _, i32_hi _⟩
  refine lv_iload_n hx hb dX5_closure_0 rfl (lv_at hl 1 rfl) ?_
  refine lv_iload_n hx hb dX5_closure_1 rfl (lv_at hl 1 rfl) ?_
  refine lv_aload_n hx hb dX5_closure_2 rfl (lv_at hl 0 rfl) ?_
  obtain ⟨a_2, a_3, a_4, v_5, v_6, v_7, hfo_1, ⟨ma_2, ka_2⟩, ⟨ma_3, ka_3⟩, ⟨ma_4, ka_4⟩⟩ := un_5 (hG _ mo0) ko0
  have bv_5 : ((-2147483648) ≤ v_5.toInt ∧ v_5.toInt ≤ 2147483647) := ⟨i32_lo _, i32_hi _⟩
  have bv_6 : ((-2147483648) ≤ v_6.toInt ∧ v_6.toInt ≤ 2147483647) := ⟨i32_lo _, i32_hi _⟩
  have bv_7 : ((-2147483648) ≤ v_7.toInt ∧ v_7.toInt ≤ 2147483647) := ⟨i32_lo _, i32_hi _⟩
  refine tk_getP (D := (dC, dI)) (ci := 5) (v := .int v_5) (C := RX5) (T := TX5) (N := 6) hx hb hU inlX5 hown hK hP mo0 hfo_1 rfl 3 (by decide) (hU _ wd_415) (fun _ h9 => h9) rfl dX5_closure_3 ?_
  refine lv_iand hx hb dX5_closure_6 ?_
  refine lv_topi (fun x_8 ex_8 => ?_)
  have bx_8 : ((-2147483648) ≤ x_8.toInt ∧ x_8.toInt ≤ 2147483647) := ⟨i32_lo _, i32_hi _⟩
  refine lv_aload_n hx hb dX5_closure_7 rfl (lv_at hl 0 rfl) ?_
  refine tk_getP (D := (dC, dI)) (ci := 5) (v := .int v_5) (C := RX5) (T := TX5) (N := 6) hx hb hU inlX5 hown hK hP mo0 hfo_1 rfl 3 (by decide) (hU _ wd_415) (fun _ h9 => h9) rfl dX5_closure_8 ?_
  refine lv_iadd hx hb dX5_closure_11 ?_
  refine lv_topi (fun x_9 ex_9 => ?_)
  have bx_9 : ((-2147483648) ≤ x_9.toInt ∧ x_9.toInt ≤ 2147483647) := ⟨i32_lo _, i32_hi _⟩
  refine lv_aload_n hx hb dX5_closure_12 rfl (lv_at hl 0 rfl) ?_
  refine tk_getP (D := (dC, dI)) (ci := 5) (v := .int v_5) (C := RX5) (T := TX5) (N := 6) hx hb hU inlX5 hown hK hP mo0 hfo_1 rfl 3 (by decide) (hU _ wd_415) (fun _ h9 => h9) rfl dX5_closure_13 ?_
  refine lv_ixor hx hb dX5_closure_16 ?_
  refine lv_topi (fun x_10 ex_10 => ?_)
  have bx_10 : ((-2147483648) ≤ x_10.toInt ∧ x_10.toInt ≤ 2147483647) := ⟨i32_lo _, i32_hi _⟩
  refine lv_ior hx hb dX5_closure_17 ?_
  refine lv_topi (fun x_11 ex_11 => ?_)
  have bx_11 : ((-2147483648) ≤ x_11.toInt ∧ x_11.toInt ≤ 2147483647) := ⟨i32_lo _, i32_hi _⟩
  exact W.iret (v := x_11) hx hb hr (fun t ht hW => ⟨⟨x_11, f, rfl, ⟨rfl, (by constructor <;> omega)⟩, by rw [ht]; exact hP, va_K.moved hW.alike hK, pl_in hD⟩, hS.F ht⟩) hS.2.2 dX5_closure_18
set_option maxHeartbeats 8000000 in
set_option maxRecDepth 100000 in
theorem s_X5_closure_k205 (l : Launch) (D : va_G) (cI cL cZ cR cG cH : ClassId) (Z : zT) (kd : Nat → Nat) (L : List Nat) (f : Nat → va_E) (hG : GI (okc cI cL cZ cR cG cH L kd) kd L f) (o0 : Nat) (mo0 : o0 ∈ L) (ko0 : kd o0 = 205) (p1 : Int32) : mPI l D cI cL cZ cR cG cH Z yX5_closure cX5_closure 2 (some .int) 0 0 [.ref o0, .int p1] L f (fun (r : Int32) (f9 : Nat → va_E) => f = f9 ∧ ((-2147483648) ≤ r.toInt ∧ r.toInt ≤ 2147483647)) := by
  obtain ⟨dC, dI⟩ := D
  refine Met.ofW (cc := cX5_closure) (maxL := 2) (ret := (some .int)) (by decide) rfl ?_
  intro p e s m args below meth c s₁ B hml hv
  obtain ⟨rfl, hP, hK, hD0, hN, hZ⟩ := hv
  have hx := B.exec
  have hb := B.bytes
  have hr := B.returns
  have hU : ∀ w ∈ wsU, w.before _ s = true := fun w h => atoms_spec (ws := wU yX5_closure cX5_closure 2 (some .int)) B.pre w (List.mem_cons_of_mem _ h)
  have hown : s.vm.findClass RX5 = some m.cls := findClass_of_methodNamed B.named
  have hlocks := B.notSynchronized
  have hD := pl_in hD0
  have hS : va_S (fun q => q ∈ L) s.heap s.heap [] := va_S.rf
  have hl := lv_entry ([.ref o0, .int p1]) (n := 2) (Nat.le_of_ble_eq_true rfl)
  rw [lg_entry_eq]
  generalize (lg_sl ([.ref o0, .int p1]) ++ List.replicate (2 - (lg_sl ([.ref o0, .int p1])).length) Slot.unset).toArray = ls at hl ⊢
  have hl : lv_has ls 2 [(0, .ref o0), (1, .int p1)] := hl
  have bp1 : ((-2147483648) ≤ p1.toInt ∧ p1.toInt ≤ 2147483647) := ⟨i32_lo _, i32_hi _⟩
  refine lv_iload_n hx hb dX5_closure_0 rfl (lv_at hl 1 rfl) ?_
  refine lv_iload_n hx hb dX5_closure_1 rfl (lv_at hl 1 rfl) ?_
  refine lv_aload_n hx hb dX5_closure_2 rfl (lv_at hl 0 rfl) ?_
  obtain ⟨a_2, a_3, a_4, v_5, v_6, v_7, hfo_1, ⟨ma_2, ka_2⟩, ⟨ma_3, ka_3⟩, ⟨ma_4, ka_4⟩⟩ := un_205 (hG _ mo0) ko0
  have bv_5 : ((-2147483648) ≤ v_5.toInt ∧ v_5.toInt ≤ 2147483647) := ⟨i32_lo _, i32_hi _⟩
  have bv_6 : ((-2147483648) ≤ v_6.toInt ∧ v_6.toInt ≤ 2147483647) := ⟨i32_lo _, i32_hi _⟩
  have bv_7 : ((-2147483648) ≤ v_7.toInt ∧ v_7.toInt ≤ 2147483647) := ⟨i32_lo _, i32_hi _⟩
  refine tk_getP (D := (dC, dI)) (ci := 5) (v := .int v_5) (C := RX5) (T := TX5) (N := 6) hx hb hU inlX5 hown hK hP mo0 hfo_1 rfl 3 (by decide) (hU _ wd_415) (fun _ h9 => h9) rfl dX5_closure_3 ?_
  refine lv_iand hx hb dX5_closure_6 ?_
  refine lv_topi (fun x_8 ex_8 => ?_)
  have bx_8 : ((-2147483648) ≤ x_8.toInt ∧ x_8.toInt ≤ 2147483647) := ⟨i32_lo _, i32_hi _⟩
  refine lv_aload_n hx hb dX5_closure_7 rfl (lv_at hl 0 rfl) ?_
  refine tk_getP (D := (dC, dI)) (ci := 5) (v := .int v_5) (C := RX5) (T := TX5) (N := 6) hx hb hU inlX5 hown hK hP mo0 hfo_1 rfl 3 (by decide) (hU _ wd_415) (fun _ h9 => h9) rfl dX5_closure_8 ?_
  refine lv_iadd hx hb dX5_closure_11 ?_
  refine lv_topi (fun x_9 ex_9 => ?_)
  have bx_9 : ((-2147483648) ≤ x_9.toInt ∧ x_9.toInt ≤ 2147483647) := ⟨i32_lo _, i32_hi _⟩
  refine lv_aload_n hx hb dX5_closure_12 rfl (lv_at hl 0 rfl) ?_
  refine tk_getP (D := (dC, dI)) (ci := 5) (v := .int v_5) (C := RX5) (T := TX5) (N := 6) hx hb hU inlX5 hown hK hP mo0 hfo_1 rfl 3 (by decide) (hU _ wd_415) (fun _ h9 => h9) rfl dX5_closure_13 ?_
  refine lv_ixor hx hb dX5_closure_16 ?_
  refine lv_topi (fun x_10 ex_10 => ?_)
  have bx_10 : ((-2147483648) ≤ x_10.toInt ∧ x_10.toInt ≤ 2147483647) := ⟨i32_lo _, i32_hi _⟩
  refine lv_ior hx hb dX5_closure_17 ?_
  refine lv_topi (fun x_11 ex_11 => ?_)
  have bx_11 : ((-2147483648) ≤ x_11.toInt ∧ x_11.toInt ≤ 2147483647) := ⟨i32_lo _, i32_hi _⟩
  exact W.iret (v := x_11) hx hb hr (fun t ht hW => ⟨⟨x_11, f, rfl, ⟨rfl, (by constructor <;> omega)⟩, by rw [ht]; exact hP, va_K.moved hW.alike hK, pl_in hD⟩, hS.F ht⟩) hS.2.2 dX5_closure_18
set_option maxHeartbeats 8000000 in
set_option maxRecDepth 100000 in
theorem s_X5_step_k5 (l : Launch) (D : va_G) (cI cL cZ cR cG cH : ClassId) (Z : zT) (kd : Nat → Nat) (L : List Nat) (f : Nat → va_E) (hG : GI (okc cI cL cZ cR cG cH L kd) kd L f) (o0 : Nat) (mo0 : o0 ∈ L) (ko0 : kd o0 = 5) (p1 : Int32) (p2 : Int32) (bp2 : (0 ≤ p2.toInt ∧ p2.toInt ≤ 19)) : mPI l D cI cL cZ cR cG cH Z yX5_step cX5_step 5 (some .int) 0 0 [.ref o0, .int p1, .int p2] L f (fun (r : Int32) (f9 : Nat → va_E) => f = f9 ∧ ((-2147483648) ≤ r.toInt ∧ r.toInt ≤ 2147483647)) := by
  obtain ⟨dC, dI⟩ := D
  refine Met.ofW (cc := cX5_step) (maxL := 5) (ret := (some .int)) (by decide) rfl ?_
  intro p e s m args below meth c s₁ B hml hv
  obtain ⟨rfl, hP, hK, hD0, hN, hZ⟩ := hv
  have hx := B.exec
  have hb := B.bytes
  have hr := B.returns
  have hU : ∀ w ∈ wsU, w.before _ s = true := fun w h => atoms_spec (ws := wU yX5_step cX5_step 5 (some .int)) B.pre w (List.mem_cons_of_mem _ h)
  have hown : s.vm.findClass RX5 = some m.cls := findClass_of_methodNamed B.named
  have hlocks := B.notSynchronized
  have hD := pl_in hD0
  have hS : va_S (fun q => q ∈ L) s.heap s.heap [] := va_S.rf
  have hl := lv_entry ([.ref o0, .int p1, .int p2]) (n := 5) (Nat.le_of_ble_eq_true rfl)
  rw [lg_entry_eq]
  generalize (lg_sl ([.ref o0, .int p1, .int p2]) ++ List.replicate (5 - (lg_sl ([.ref o0, .int p1, .int p2])).length) Slot.unset).toArray = ls at hl ⊢
  have hl : lv_has ls 5 [(0, .ref o0), (1, .int p1), (2, .int p2)] := hl
  have bp1 : ((-2147483648) ≤ p1.toInt ∧ p1.toInt ≤ 2147483647) := ⟨i32_lo _, i32_hi _⟩
  refine lv_iload_n hx hb dX5_step_0 rfl (lv_at hl 1 rfl) ?_
  refine lv_aload_n hx hb dX5_step_1 rfl (lv_at hl 0 rfl) ?_
  obtain ⟨a_2, a_3, a_4, v_5, v_6, v_7, hfo_1, ⟨ma_2, ka_2⟩, ⟨ma_3, ka_3⟩, ⟨ma_4, ka_4⟩⟩ := un_5 (hG _ mo0) ko0
  have bv_5 : ((-2147483648) ≤ v_5.toInt ∧ v_5.toInt ≤ 2147483647) := ⟨i32_lo _, i32_hi _⟩
  have bv_6 : ((-2147483648) ≤ v_6.toInt ∧ v_6.toInt ≤ 2147483647) := ⟨i32_lo _, i32_hi _⟩
  have bv_7 : ((-2147483648) ≤ v_7.toInt ∧ v_7.toInt ≤ 2147483647) := ⟨i32_lo _, i32_hi _⟩
  refine tk_getP (D := (dC, dI)) (ci := 5) (v := .ref a_4) (C := RX5) (T := TX5) (N := 6) hx hb hU inlX5 hown hK hP mo0 hfo_1 rfl 2 (by decide) (hU _ wd_112) (fun _ h9 => h9) rfl dX5_step_2 ?_
  refine lv_iload_n hx hb dX5_step_5 rfl (lv_at hl 2 rfl) ?_
  obtain ⟨g_9, hfo_8, hbg_9⟩ := un_501 (hG _ ma_4) ka_4
  refine tk_ildP hx hb hK hP 0 ma_4 hfo_8 rfl (vp_in_iff.mpr (by constructor <;> omega)) dX5_step_6 ?_
  refine lv_topi (fun x_10 ex_10 => ?_)
  have bx_10 : ((-2147483648) ≤ x_10.toInt ∧ x_10.toInt ≤ 2147483647) := ⟨i32_lo _, i32_hi _⟩
  refine lv_iand hx hb dX5_step_7 ?_
  refine lv_topi (fun x_11 ex_11 => ?_)
  have bx_11 : ((-2147483648) ≤ x_11.toInt ∧ x_11.toInt ≤ 2147483647) := ⟨i32_lo _, i32_hi _⟩
  refine lv_istore_n (lv' := [(3, .int x_11), (0, .ref o0), (1, .int p1), (2, .int p2)]) hx hb dX5_step_8 rfl hl (by decide) rfl (fun ls hl => ?_)
  refine lv_iload_n hx hb dX5_step_9 rfl (lv_at hl 0 rfl) ?_
  refine lv_if_ne (tgt := 15) hx hb dX5_step_10 (by decide) (fun c_12 => ?_) (fun c_12 => ?_)
  · skip
    rw [← Int32.toInt_inj, ti_0] at c_12
    refine lv_iload_n hx hb dX5_step_15 rfl (lv_at hl 0 rfl) ?_
    refine lv_aload_n hx hb dX5_step_16 rfl (lv_at hl 1 rfl) ?_
    refine tk_getP (D := (dC, dI)) (ci := 5) (v := .int v_5) (C := RX5) (T := TX5) (N := 6) hx hb hU inlX5 hown hK hP mo0 hfo_1 rfl 3 (by decide) (hU _ wd_415) (fun _ h9 => h9) rfl dX5_step_17 ?_
    refine lv_iconst (v := (-1)) hx hb dX5_step_20 (by decide) ?_
    refine lv_ixor hx hb dX5_step_21 ?_
    refine lv_topi (fun x_13 ex_13 => ?_)
    have bx_13 : ((-2147483648) ≤ x_13.toInt ∧ x_13.toInt ≤ 2147483647) := ⟨i32_lo _, i32_hi _⟩
    refine lv_iand hx hb dX5_step_22 ?_
    refine lv_topi (fun x_14 ex_14 => ?_)
    have bx_14 : ((-2147483648) ≤ x_14.toInt ∧ x_14.toInt ≤ 2147483647) := ⟨i32_lo _, i32_hi _⟩
    refine lv_iconst (v := 1) hx hb dX5_step_23 (by decide) ?_
    refine lv_ishl hx hb dX5_step_24 ?_
    refine lv_topi (fun x_15 ex_15 => ?_)
    have bx_15 : ((-2147483648) ≤ x_15.toInt ∧ x_15.toInt ≤ 2147483647) := ⟨i32_lo _, i32_hi _⟩
    refine lv_iload_n hx hb dX5_step_25 rfl (lv_at hl 0 rfl) ?_
    refine lv_aload_n hx hb dX5_step_26 rfl (lv_at hl 1 rfl) ?_
    refine tk_getP (D := (dC, dI)) (ci := 5) (v := .int v_5) (C := RX5) (T := TX5) (N := 6) hx hb hU inlX5 hown hK hP mo0 hfo_1 rfl 3 (by decide) (hU _ wd_415) (fun _ h9 => h9) rfl dX5_step_27 ?_
    refine lv_iand hx hb dX5_step_30 ?_
    refine lv_topi (fun x_16 ex_16 => ?_)
    have bx_16 : ((-2147483648) ≤ x_16.toInt ∧ x_16.toInt ≤ 2147483647) := ⟨i32_lo _, i32_hi _⟩
    refine lv_ior hx hb dX5_step_31 ?_
    refine lv_topi (fun x_17 ex_17 => ?_)
    have bx_17 : ((-2147483648) ≤ x_17.toInt ∧ x_17.toInt ≤ 2147483647) := ⟨i32_lo _, i32_hi _⟩
    refine lv_istore (lv' := [(4, .int x_17), (3, .int x_11), (0, .ref o0), (1, .int p1), (2, .int p2)]) hx hb dX5_step_32 hl (by decide) rfl (fun ls hl => ?_)
    refine lv_iload hx hb dX5_step_34 (lv_at hl 0 rfl) ?_
    refine lv_iload hx hb dX5_step_36 (lv_at hl 0 rfl) ?_
    refine lv_aload_n hx hb dX5_step_38 rfl (lv_at hl 2 rfl) ?_
    refine tk_getP (D := (dC, dI)) (ci := 5) (v := .int v_5) (C := RX5) (T := TX5) (N := 6) hx hb hU inlX5 hown hK hP mo0 hfo_1 rfl 3 (by decide) (hU _ wd_415) (fun _ h9 => h9) rfl dX5_step_39 ?_
    refine lv_iand hx hb dX5_step_42 ?_
    refine lv_topi (fun x_18 ex_18 => ?_)
    have bx_18 : ((-2147483648) ≤ x_18.toInt ∧ x_18.toInt ≤ 2147483647) := ⟨i32_lo _, i32_hi _⟩
    refine lv_aload_n hx hb dX5_step_43 rfl (lv_at hl 2 rfl) ?_
    refine tk_getP (D := (dC, dI)) (ci := 5) (v := .int v_5) (C := RX5) (T := TX5) (N := 6) hx hb hU inlX5 hown hK hP mo0 hfo_1 rfl 3 (by decide) (hU _ wd_415) (fun _ h9 => h9) rfl dX5_step_44 ?_
    refine lv_iadd hx hb dX5_step_47 ?_
    refine lv_topi (fun x_19 ex_19 => ?_)
    have bx_19 : ((-2147483648) ≤ x_19.toInt ∧ x_19.toInt ≤ 2147483647) := ⟨i32_lo _, i32_hi _⟩
    refine lv_aload_n hx hb dX5_step_48 rfl (lv_at hl 2 rfl) ?_
    refine tk_getP (D := (dC, dI)) (ci := 5) (v := .int v_5) (C := RX5) (T := TX5) (N := 6) hx hb hU inlX5 hown hK hP mo0 hfo_1 rfl 3 (by decide) (hU _ wd_415) (fun _ h9 => h9) rfl dX5_step_49 ?_
    refine lv_ixor hx hb dX5_step_52 ?_
    refine lv_topi (fun x_20 ex_20 => ?_)
    have bx_20 : ((-2147483648) ≤ x_20.toInt ∧ x_20.toInt ≤ 2147483647) := ⟨i32_lo _, i32_hi _⟩
    refine lv_ior hx hb dX5_step_53 ?_
    refine lv_topi (fun x_21 ex_21 => ?_)
    have bx_21 : ((-2147483648) ≤ x_21.toInt ∧ x_21.toInt ≤ 2147483647) := ⟨i32_lo _, i32_hi _⟩
    exact W.iret (v := x_21) hx hb hr (fun t ht hW => ⟨⟨x_21, f, rfl, ⟨rfl, (by constructor <;> omega)⟩, by rw [ht]; exact hP, va_K.moved hW.alike hK, pl_in hD⟩, hS.F ht⟩) hS.2.2 dX5_step_54
  · skip
    rw [← Int32.toInt_inj, ti_0] at c_12
    refine lv_iconst (v := 0) hx hb dX5_step_13 (by decide) ?_
    exact W.iret (v := 0) hx hb hr (fun t ht hW => ⟨⟨0, f, rfl, ⟨rfl, (by decide)⟩, by rw [ht]; exact hP, va_K.moved hW.alike hK, pl_in hD⟩, hS.F ht⟩) hS.2.2 dX5_step_14
set_option maxHeartbeats 8000000 in
set_option maxRecDepth 100000 in
theorem s_X9_clear_k9 (l : Launch) (D : va_G) (cI cL cZ cR cG cH : ClassId) (Z : zT) (kd : Nat → Nat) (L : List Nat) (f : Nat → va_E) (hG : GI (okc cI cL cZ cR cG cH L kd) kd L f) (o0 : Nat) (mo0 : o0 ∈ L) (ko0 : kd o0 = 9) : mPV l D cI cL cZ cR cG cH Z yX9_clear cX9_clear 1 none 0 0 [.ref o0] L f (fun (f9 : Nat → va_E) => GI (okc cI cL cZ cR cG cH L kd) kd L f9 ∧ (∀ b, kd b ≠ 9 → f9 b = f b)) := by
  obtain ⟨dC, dI⟩ := D
  refine Met.ofW (cc := cX9_clear) (maxL := 1) (ret := none) (by decide) rfl ?_
  intro p e s m args below meth c s₁ B hml hv
  obtain ⟨rfl, hP, hK, hD0, hN, hZ⟩ := hv
  have hx := B.exec
  have hb := B.bytes
  have hr := B.returns
  have hU : ∀ w ∈ wsU, w.before _ s = true := fun w h => atoms_spec (ws := wU yX9_clear cX9_clear 1 none) B.pre w (List.mem_cons_of_mem _ h)
  have hown : s.vm.findClass RX9 = some m.cls := findClass_of_methodNamed B.named
  have hlocks := B.notSynchronized
  have hD := pl_in hD0
  have hS : va_S (fun q => q ∈ L) s.heap s.heap [] := va_S.rf
  have hl := lv_entry ([.ref o0]) (n := 1) (Nat.le_of_ble_eq_true rfl)
  rw [lg_entry_eq]
  generalize (lg_sl ([.ref o0]) ++ List.replicate (1 - (lg_sl ([.ref o0])).length) Slot.unset).toArray = ls at hl ⊢
  have hl : lv_has ls 1 [(0, .ref o0)] := hl
  have hfr0 : ∀ b, kd b ≠ 9 → f b = f b := fun _ _ => rfl
  refine lv_aload_n hx hb dX9_clear_0 rfl (lv_at hl 0 rfl) ?_
  refine lv_iconst (v := 0) hx hb dX9_clear_1 (by decide) ?_
  obtain ⟨a_2, a_3, v_4, hfo_1, ⟨ma_2, ka_2⟩, ⟨ma_3, ka_3⟩, bv_4⟩ := un_9 (hG _ mo0) ko0
  refine tk_putP (D := (dC, dI)) (ci := 9) (v := .int 0) (ty := .int) (C := RX9) (T := TX9) (N := 3) hx hb hU inlX9 tyX9 tyX9_ok nmX9 hown hK hP hD hS mo0 hfo_1 rfl 2 (by decide) (hU _ wd_273) (fun _ h9 => h9) rfl (by decide +kernel) rfl rfl (Nat.le_of_ble_eq_true rfl) dX9_clear_2 (fun H locs hP hD hS => ?_)
  obtain ⟨f_6, ef_6⟩ : ∃ y : Nat → va_E, y = va_up f o0 (.inr (9, [.ref a_2, .ref a_3, .int 0])) := ⟨_, rfl⟩
  have hP : va_P (dC, dI) vwCl (va_pl L f_6) H := by rw [ef_6]; exact hP
  have hD : va_D (fun q => q ∈ L) (va_pl L f_6) := by rw [ef_6]; exact hD
  have hG : GI (okc cI cL cZ cR cG cH L kd) kd L f_6 := by rw [ef_6]; exact hG.set o0 (mk_9 ko0 ⟨a_2, a_3, 0, rfl, ⟨ma_2, ka_2⟩, ⟨ma_3, ka_3⟩, (by decide)⟩)
  have hfr0 : ∀ b, kd b ≠ 9 → f_6 b = f b := fun b q9 => (congrFun ef_6 b).trans ((up_ne (fun e9 => q9 (by rw [e9]; exact ko0))).trans (hfr0 b q9))
  have hfo_7 : f_6 o0 = .inr (9, [.ref a_2, .ref a_3, .int 0]) := by rw [ef_6]; exact up_self
  exact W.vret hx hb hr (fun t ht hW => ⟨⟨f_6, rfl, ⟨hG, hfr0⟩, by rw [ht]; exact hP, va_K.moved hW.alike hK, pl_in hD⟩, hS.F ht⟩) hS.2.2 dX9_clear_5
set_option maxHeartbeats 8000000 in
set_option maxRecDepth 100000 in
theorem s_X9_clear_k209 (l : Launch) (D : va_G) (cI cL cZ cR cG cH : ClassId) (Z : zT) (kd : Nat → Nat) (L : List Nat) (f : Nat → va_E) (hG : GI (okc cI cL cZ cR cG cH L kd) kd L f) (o0 : Nat) (mo0 : o0 ∈ L) (ko0 : kd o0 = 209) : mPV l D cI cL cZ cR cG cH Z yX9_clear cX9_clear 1 none 0 0 [.ref o0] L f (fun (f9 : Nat → va_E) => GI (okc cI cL cZ cR cG cH L kd) kd L f9 ∧ (∀ b, kd b ≠ 209 → f9 b = f b)) := by
  obtain ⟨dC, dI⟩ := D
  refine Met.ofW (cc := cX9_clear) (maxL := 1) (ret := none) (by decide) rfl ?_
  intro p e s m args below meth c s₁ B hml hv
  obtain ⟨rfl, hP, hK, hD0, hN, hZ⟩ := hv
  have hx := B.exec
  have hb := B.bytes
  have hr := B.returns
  have hU : ∀ w ∈ wsU, w.before _ s = true := fun w h => atoms_spec (ws := wU yX9_clear cX9_clear 1 none) B.pre w (List.mem_cons_of_mem _ h)
  have hown : s.vm.findClass RX9 = some m.cls := findClass_of_methodNamed B.named
  have hlocks := B.notSynchronized
  have hD := pl_in hD0
  have hS : va_S (fun q => q ∈ L) s.heap s.heap [] := va_S.rf
  have hl := lv_entry ([.ref o0]) (n := 1) (Nat.le_of_ble_eq_true rfl)
  rw [lg_entry_eq]
  generalize (lg_sl ([.ref o0]) ++ List.replicate (1 - (lg_sl ([.ref o0])).length) Slot.unset).toArray = ls at hl ⊢
  have hl : lv_has ls 1 [(0, .ref o0)] := hl
  have hfr0 : ∀ b, kd b ≠ 209 → f b = f b := fun _ _ => rfl
  refine lv_aload_n hx hb dX9_clear_0 rfl (lv_at hl 0 rfl) ?_
  refine lv_iconst (v := 0) hx hb dX9_clear_1 (by decide) ?_
  obtain ⟨a_2, a_3, v_4, hfo_1, ⟨ma_2, ka_2⟩, ⟨ma_3, ka_3⟩, bv_4⟩ := un_209 (hG _ mo0) ko0
  refine tk_putP (D := (dC, dI)) (ci := 9) (v := .int 0) (ty := .int) (C := RX9) (T := TX9) (N := 3) hx hb hU inlX9 tyX9 tyX9_ok nmX9 hown hK hP hD hS mo0 hfo_1 rfl 2 (by decide) (hU _ wd_273) (fun _ h9 => h9) rfl (by decide +kernel) rfl rfl (Nat.le_of_ble_eq_true rfl) dX9_clear_2 (fun H locs hP hD hS => ?_)
  obtain ⟨f_6, ef_6⟩ : ∃ y : Nat → va_E, y = va_up f o0 (.inr (9, [.ref a_2, .ref a_3, .int 0])) := ⟨_, rfl⟩
  have hP : va_P (dC, dI) vwCl (va_pl L f_6) H := by rw [ef_6]; exact hP
  have hD : va_D (fun q => q ∈ L) (va_pl L f_6) := by rw [ef_6]; exact hD
  have hG : GI (okc cI cL cZ cR cG cH L kd) kd L f_6 := by rw [ef_6]; exact hG.set o0 (mk_209 ko0 ⟨a_2, a_3, 0, rfl, ⟨ma_2, ka_2⟩, ⟨ma_3, ka_3⟩, (by decide)⟩)
  have hfr0 : ∀ b, kd b ≠ 209 → f_6 b = f b := fun b q209 => (congrFun ef_6 b).trans ((up_ne (fun e9 => q209 (by rw [e9]; exact ko0))).trans (hfr0 b q209))
  have hfo_7 : f_6 o0 = .inr (9, [.ref a_2, .ref a_3, .int 0]) := by rw [ef_6]; exact up_self
  exact W.vret hx hb hr (fun t ht hW => ⟨⟨f_6, rfl, ⟨hG, hfr0⟩, by rw [ht]; exact hP, va_K.moved hW.alike hK, pl_in hD⟩, hS.F ht⟩) hS.2.2 dX9_clear_5
set_option maxHeartbeats 8000000 in
set_option maxRecDepth 100000 in
theorem s_X9_clear_k213 (l : Launch) (D : va_G) (cI cL cZ cR cG cH : ClassId) (Z : zT) (kd : Nat → Nat) (L : List Nat) (f : Nat → va_E) (hG : GI (okc cI cL cZ cR cG cH L kd) kd L f) (o0 : Nat) (mo0 : o0 ∈ L) (ko0 : kd o0 = 213) : mPV l D cI cL cZ cR cG cH Z yX9_clear cX9_clear 1 none 0 0 [.ref o0] L f (fun (f9 : Nat → va_E) => GI (okc cI cL cZ cR cG cH L kd) kd L f9 ∧ (∀ b, kd b ≠ 213 → f9 b = f b)) := by
  obtain ⟨dC, dI⟩ := D
  refine Met.ofW (cc := cX9_clear) (maxL := 1) (ret := none) (by decide) rfl ?_
  intro p e s m args below meth c s₁ B hml hv
  obtain ⟨rfl, hP, hK, hD0, hN, hZ⟩ := hv
  have hx := B.exec
  have hb := B.bytes
  have hr := B.returns
  have hU : ∀ w ∈ wsU, w.before _ s = true := fun w h => atoms_spec (ws := wU yX9_clear cX9_clear 1 none) B.pre w (List.mem_cons_of_mem _ h)
  have hown : s.vm.findClass RX9 = some m.cls := findClass_of_methodNamed B.named
  have hlocks := B.notSynchronized
  have hD := pl_in hD0
  have hS : va_S (fun q => q ∈ L) s.heap s.heap [] := va_S.rf
  have hl := lv_entry ([.ref o0]) (n := 1) (Nat.le_of_ble_eq_true rfl)
  rw [lg_entry_eq]
  generalize (lg_sl ([.ref o0]) ++ List.replicate (1 - (lg_sl ([.ref o0])).length) Slot.unset).toArray = ls at hl ⊢
  have hl : lv_has ls 1 [(0, .ref o0)] := hl
  have hfr0 : ∀ b, kd b ≠ 213 → f b = f b := fun _ _ => rfl
  refine lv_aload_n hx hb dX9_clear_0 rfl (lv_at hl 0 rfl) ?_
  refine lv_iconst (v := 0) hx hb dX9_clear_1 (by decide) ?_
  obtain ⟨a_2, a_3, v_4, hfo_1, ⟨ma_2, ka_2⟩, ⟨ma_3, ka_3⟩, bv_4⟩ := un_213 (hG _ mo0) ko0
  refine tk_putP (D := (dC, dI)) (ci := 9) (v := .int 0) (ty := .int) (C := RX9) (T := TX9) (N := 3) hx hb hU inlX9 tyX9 tyX9_ok nmX9 hown hK hP hD hS mo0 hfo_1 rfl 2 (by decide) (hU _ wd_273) (fun _ h9 => h9) rfl (by decide +kernel) rfl rfl (Nat.le_of_ble_eq_true rfl) dX9_clear_2 (fun H locs hP hD hS => ?_)
  obtain ⟨f_6, ef_6⟩ : ∃ y : Nat → va_E, y = va_up f o0 (.inr (9, [.ref a_2, .ref a_3, .int 0])) := ⟨_, rfl⟩
  have hP : va_P (dC, dI) vwCl (va_pl L f_6) H := by rw [ef_6]; exact hP
  have hD : va_D (fun q => q ∈ L) (va_pl L f_6) := by rw [ef_6]; exact hD
  have hG : GI (okc cI cL cZ cR cG cH L kd) kd L f_6 := by rw [ef_6]; exact hG.set o0 (mk_213 ko0 ⟨a_2, a_3, 0, rfl, ⟨ma_2, ka_2⟩, ⟨ma_3, ka_3⟩, (by decide)⟩)
  have hfr0 : ∀ b, kd b ≠ 213 → f_6 b = f b := fun b q213 => (congrFun ef_6 b).trans ((up_ne (fun e9 => q213 (by rw [e9]; exact ko0))).trans (hfr0 b q213))
  have hfo_7 : f_6 o0 = .inr (9, [.ref a_2, .ref a_3, .int 0]) := by rw [ef_6]; exact up_self
  exact W.vret hx hb hr (fun t ht hW => ⟨⟨f_6, rfl, ⟨hG, hfr0⟩, by rw [ht]; exact hP, va_K.moved hW.alike hK, pl_in hD⟩, hS.F ht⟩) hS.2.2 dX9_clear_5
set_option maxHeartbeats 8000000 in
set_option maxRecDepth 100000 in
theorem s_X9_lengthOf_k9 (l : Launch) (D : va_G) (cI cL cZ cR cG cH : ClassId) (Z : zT) (kd : Nat → Nat) (L : List Nat) (f : Nat → va_E) (hG : GI (okc cI cL cZ cR cG cH L kd) kd L f) (o0 : Nat) (mo0 : o0 ∈ L) (ko0 : kd o0 = 9) (p1 : Int32) : mPI l D cI cL cZ cR cG cH Z yX9_lengthOf cX9_lengthOf 2 (some .int) 0 0 [.ref o0, .int p1] L f (fun (r : Int32) (f9 : Nat → va_E) => f = f9 ∧ ((-1) ≤ r.toInt ∧ r.toInt ≤ 8) ∧ (r.toInt = -1 ∨ (0 ≤ p1.toInt ∧ p1.toInt ≤ 11))) := by
  obtain ⟨dC, dI⟩ := D
  refine Met.ofW (cc := cX9_lengthOf) (maxL := 2) (ret := (some .int)) (by decide) rfl ?_
  intro p e s m args below meth c s₁ B hml hv
  obtain ⟨rfl, hP, hK, hD0, hN, hZ⟩ := hv
  have hx := B.exec
  have hb := B.bytes
  have hr := B.returns
  have hU : ∀ w ∈ wsU, w.before _ s = true := fun w h => atoms_spec (ws := wU yX9_lengthOf cX9_lengthOf 2 (some .int)) B.pre w (List.mem_cons_of_mem _ h)
  have hown : s.vm.findClass RX9 = some m.cls := findClass_of_methodNamed B.named
  have hlocks := B.notSynchronized
  have hD := pl_in hD0
  have hS : va_S (fun q => q ∈ L) s.heap s.heap [] := va_S.rf
  have hl := lv_entry ([.ref o0, .int p1]) (n := 2) (Nat.le_of_ble_eq_true rfl)
  rw [lg_entry_eq]
  generalize (lg_sl ([.ref o0, .int p1]) ++ List.replicate (2 - (lg_sl ([.ref o0, .int p1])).length) Slot.unset).toArray = ls at hl ⊢
  have hl : lv_has ls 2 [(0, .ref o0), (1, .int p1)] := hl
  have bp1 : ((-2147483648) ≤ p1.toInt ∧ p1.toInt ≤ 2147483647) := ⟨i32_lo _, i32_hi _⟩
  refine lv_iload_n hx hb dX9_lengthOf_0 rfl (lv_at hl 1 rfl) ?_
  refine lv_if_lt (tgt := 12) hx hb dX9_lengthOf_1 (by decide) (fun c_1 => ?_) (fun c_1 => ?_)
  · skip
    rw [Int32.lt_iff_toInt_lt, ti_0] at c_1
    refine lv_iconst (v := (-1)) hx hb dX9_lengthOf_12 (by decide) ?_
    refine lv_goto (tgt := 22) hx hb dX9_lengthOf_13 (by decide) ?_
    exact W.iret (v := (-1)) hx hb hr (fun t ht hW => ⟨⟨(-1), f, rfl, ⟨rfl, (by decide), (by (try rw [ti_m1]) <;> omega)⟩, by rw [ht]; exact hP, va_K.moved hW.alike hK, pl_in hD⟩, hS.F ht⟩) hS.2.2 dX9_lengthOf_22
  · skip
    rw [Int32.lt_iff_toInt_lt, ti_0] at c_1
    refine lv_iload_n hx hb dX9_lengthOf_4 rfl (lv_at hl 1 rfl) ?_
    refine lv_aload_n hx hb dX9_lengthOf_5 rfl (lv_at hl 0 rfl) ?_
    obtain ⟨a_3, a_4, v_5, hfo_2, ⟨ma_3, ka_3⟩, ⟨ma_4, ka_4⟩, bv_5⟩ := un_9 (hG _ mo0) ko0
    refine tk_getP (D := (dC, dI)) (ci := 9) (v := .int v_5) (C := RX9) (T := TX9) (N := 3) hx hb hU inlX9 hown hK hP mo0 hfo_2 rfl 2 (by decide) (hU _ wd_273) (fun _ h9 => h9) rfl dX9_lengthOf_6 ?_
    refine lv_icmp_lt (tgt := 16) hx hb dX9_lengthOf_9 (by decide) (fun c_6 => ?_) (fun c_6 => ?_)
    · skip
      rw [Int32.lt_iff_toInt_lt] at c_6
      refine lv_aload_n hx hb dX9_lengthOf_16 rfl (lv_at hl 0 rfl) ?_
      refine tk_getP (D := (dC, dI)) (ci := 9) (v := .ref a_4) (C := RX9) (T := TX9) (N := 3) hx hb hU inlX9 hown hK hP mo0 hfo_2 rfl 1 (by decide) (hU _ wd_96) (fun _ h9 => h9) rfl dX9_lengthOf_17 ?_
      refine lv_iload_n hx hb dX9_lengthOf_20 rfl (lv_at hl 1 rfl) ?_
      obtain ⟨g_8, hfo_7, hbg_8⟩ := un_505 (hG _ ma_4) ka_4
      refine tk_ildP hx hb hK hP 0 ma_4 hfo_7 rfl (vp_in_iff.mpr (by constructor <;> omega)) dX9_lengthOf_21 ?_
      refine lv_topi (fun x_9 ex_9 => ?_)
      have bx_9 : (0 ≤ x_9.toInt ∧ x_9.toInt ≤ 8) := by rw [ex_9]; exact hbg_8 _
      exact W.iret (v := x_9) hx hb hr (fun t ht hW => ⟨⟨x_9, f, rfl, ⟨rfl, (by constructor <;> omega), (by omega)⟩, by rw [ht]; exact hP, va_K.moved hW.alike hK, pl_in hD⟩, hS.F ht⟩) hS.2.2 dX9_lengthOf_22
    · skip
      rw [Int32.lt_iff_toInt_lt] at c_6
      refine lv_iconst (v := (-1)) hx hb dX9_lengthOf_12 (by decide) ?_
      refine lv_goto (tgt := 22) hx hb dX9_lengthOf_13 (by decide) ?_
      exact W.iret (v := (-1)) hx hb hr (fun t ht hW => ⟨⟨(-1), f, rfl, ⟨rfl, (by decide), (by (try rw [ti_m1]) <;> omega)⟩, by rw [ht]; exact hP, va_K.moved hW.alike hK, pl_in hD⟩, hS.F ht⟩) hS.2.2 dX9_lengthOf_22
set_option maxHeartbeats 8000000 in
set_option maxRecDepth 100000 in
theorem s_X9_lengthOf_k13 (l : Launch) (D : va_G) (cI cL cZ cR cG cH : ClassId) (Z : zT) (kd : Nat → Nat) (L : List Nat) (f : Nat → va_E) (hG : GI (okc cI cL cZ cR cG cH L kd) kd L f) (o0 : Nat) (mo0 : o0 ∈ L) (ko0 : kd o0 = 13) (p1 : Int32) : mPI l D cI cL cZ cR cG cH Z yX9_lengthOf cX9_lengthOf 2 (some .int) 0 0 [.ref o0, .int p1] L f (fun (r : Int32) (f9 : Nat → va_E) => f = f9 ∧ ((-1) ≤ r.toInt ∧ r.toInt ≤ 8) ∧ (r.toInt = -1 ∨ (0 ≤ p1.toInt ∧ p1.toInt ≤ 7))) := by
  obtain ⟨dC, dI⟩ := D
  refine Met.ofW (cc := cX9_lengthOf) (maxL := 2) (ret := (some .int)) (by decide) rfl ?_
  intro p e s m args below meth c s₁ B hml hv
  obtain ⟨rfl, hP, hK, hD0, hN, hZ⟩ := hv
  have hx := B.exec
  have hb := B.bytes
  have hr := B.returns
  have hU : ∀ w ∈ wsU, w.before _ s = true := fun w h => atoms_spec (ws := wU yX9_lengthOf cX9_lengthOf 2 (some .int)) B.pre w (List.mem_cons_of_mem _ h)
  have hown : s.vm.findClass RX9 = some m.cls := findClass_of_methodNamed B.named
  have hlocks := B.notSynchronized
  have hD := pl_in hD0
  have hS : va_S (fun q => q ∈ L) s.heap s.heap [] := va_S.rf
  have hl := lv_entry ([.ref o0, .int p1]) (n := 2) (Nat.le_of_ble_eq_true rfl)
  rw [lg_entry_eq]
  generalize (lg_sl ([.ref o0, .int p1]) ++ List.replicate (2 - (lg_sl ([.ref o0, .int p1])).length) Slot.unset).toArray = ls at hl ⊢
  have hl : lv_has ls 2 [(0, .ref o0), (1, .int p1)] := hl
  have bp1 : ((-2147483648) ≤ p1.toInt ∧ p1.toInt ≤ 2147483647) := ⟨i32_lo _, i32_hi _⟩
  refine lv_iload_n hx hb dX9_lengthOf_0 rfl (lv_at hl 1 rfl) ?_
  refine lv_if_lt (tgt := 12) hx hb dX9_lengthOf_1 (by decide) (fun c_1 => ?_) (fun c_1 => ?_)
  · skip
    rw [Int32.lt_iff_toInt_lt, ti_0] at c_1
    refine lv_iconst (v := (-1)) hx hb dX9_lengthOf_12 (by decide) ?_
    refine lv_goto (tgt := 22) hx hb dX9_lengthOf_13 (by decide) ?_
    exact W.iret (v := (-1)) hx hb hr (fun t ht hW => ⟨⟨(-1), f, rfl, ⟨rfl, (by decide), (by (try rw [ti_m1]) <;> omega)⟩, by rw [ht]; exact hP, va_K.moved hW.alike hK, pl_in hD⟩, hS.F ht⟩) hS.2.2 dX9_lengthOf_22
  · skip
    rw [Int32.lt_iff_toInt_lt, ti_0] at c_1
    refine lv_iload_n hx hb dX9_lengthOf_4 rfl (lv_at hl 1 rfl) ?_
    refine lv_aload_n hx hb dX9_lengthOf_5 rfl (lv_at hl 0 rfl) ?_
    obtain ⟨a_3, a_4, v_5, hfo_2, ⟨ma_3, ka_3⟩, ⟨ma_4, ka_4⟩, bv_5⟩ := un_13 (hG _ mo0) ko0
    refine tk_getP (D := (dC, dI)) (ci := 9) (v := .int v_5) (C := RX9) (T := TX9) (N := 3) hx hb hU inlX9 hown hK hP mo0 hfo_2 rfl 2 (by decide) (hU _ wd_273) (fun _ h9 => h9) rfl dX9_lengthOf_6 ?_
    refine lv_icmp_lt (tgt := 16) hx hb dX9_lengthOf_9 (by decide) (fun c_6 => ?_) (fun c_6 => ?_)
    · skip
      rw [Int32.lt_iff_toInt_lt] at c_6
      refine lv_aload_n hx hb dX9_lengthOf_16 rfl (lv_at hl 0 rfl) ?_
      refine tk_getP (D := (dC, dI)) (ci := 9) (v := .ref a_4) (C := RX9) (T := TX9) (N := 3) hx hb hU inlX9 hown hK hP mo0 hfo_2 rfl 1 (by decide) (hU _ wd_96) (fun _ h9 => h9) rfl dX9_lengthOf_17 ?_
      refine lv_iload_n hx hb dX9_lengthOf_20 rfl (lv_at hl 1 rfl) ?_
      obtain ⟨g_8, hfo_7, hbg_8⟩ := un_507 (hG _ ma_4) ka_4
      refine tk_ildP hx hb hK hP 0 ma_4 hfo_7 rfl (vp_in_iff.mpr (by constructor <;> omega)) dX9_lengthOf_21 ?_
      refine lv_topi (fun x_9 ex_9 => ?_)
      have bx_9 : (0 ≤ x_9.toInt ∧ x_9.toInt ≤ 8) := by rw [ex_9]; exact hbg_8 _
      exact W.iret (v := x_9) hx hb hr (fun t ht hW => ⟨⟨x_9, f, rfl, ⟨rfl, (by constructor <;> omega), (by omega)⟩, by rw [ht]; exact hP, va_K.moved hW.alike hK, pl_in hD⟩, hS.F ht⟩) hS.2.2 dX9_lengthOf_22
    · skip
      rw [Int32.lt_iff_toInt_lt] at c_6
      refine lv_iconst (v := (-1)) hx hb dX9_lengthOf_12 (by decide) ?_
      refine lv_goto (tgt := 22) hx hb dX9_lengthOf_13 (by decide) ?_
      exact W.iret (v := (-1)) hx hb hr (fun t ht hW => ⟨⟨(-1), f, rfl, ⟨rfl, (by decide), (by (try rw [ti_m1]) <;> omega)⟩, by rw [ht]; exact hP, va_K.moved hW.alike hK, pl_in hD⟩, hS.F ht⟩) hS.2.2 dX9_lengthOf_22
set_option maxHeartbeats 8000000 in
set_option maxRecDepth 100000 in
theorem s_X9_open_k9 (l : Launch) (D : va_G) (cI cL cZ cR cG cH : ClassId) (Z : zT) (kd : Nat → Nat) (L : List Nat) (f : Nat → va_E) (hG : GI (okc cI cL cZ cR cG cH L kd) kd L f) (o0 : Nat) (mo0 : o0 ∈ L) (ko0 : kd o0 = 9) : mPV l D cI cL cZ cR cG cH Z yX9_open cX9_open 1 none 0 0 [.ref o0] L f (fun (f9 : Nat → va_E) => GI (okc cI cL cZ cR cG cH L kd) kd L f9 ∧ (∀ b, kd b ≠ 9 → kd b ≠ 505 → f9 b = f b)) := by
  obtain ⟨dC, dI⟩ := D
  refine Met.ofW (cc := cX9_open) (maxL := 1) (ret := none) (by decide) rfl ?_
  intro p e s m args below meth c s₁ B hml hv
  obtain ⟨rfl, hP, hK, hD0, hN, hZ⟩ := hv
  have hx := B.exec
  have hb := B.bytes
  have hr := B.returns
  have hU : ∀ w ∈ wsU, w.before _ s = true := fun w h => atoms_spec (ws := wU yX9_open cX9_open 1 none) B.pre w (List.mem_cons_of_mem _ h)
  have hown : s.vm.findClass RX9 = some m.cls := findClass_of_methodNamed B.named
  have hlocks := B.notSynchronized
  have hD := pl_in hD0
  have hS : va_S (fun q => q ∈ L) s.heap s.heap [] := va_S.rf
  have hl := lv_entry ([.ref o0]) (n := 1) (Nat.le_of_ble_eq_true rfl)
  rw [lg_entry_eq]
  generalize (lg_sl ([.ref o0]) ++ List.replicate (1 - (lg_sl ([.ref o0])).length) Slot.unset).toArray = ls at hl ⊢
  have hl : lv_has ls 1 [(0, .ref o0)] := hl
  have hfr0 : ∀ b, kd b ≠ 9 → kd b ≠ 505 → f b = f b := fun _ _ _ => rfl
  refine lv_aload_n hx hb dX9_open_0 rfl (lv_at hl 0 rfl) ?_
  obtain ⟨a_2, a_3, v_4, hfo_1, ⟨ma_2, ka_2⟩, ⟨ma_3, ka_3⟩, bv_4⟩ := un_9 (hG _ mo0) ko0
  refine tk_getP (D := (dC, dI)) (ci := 9) (v := .int v_4) (C := RX9) (T := TX9) (N := 3) hx hb hU inlX9 hown hK hP mo0 hfo_1 rfl 2 (by decide) (hU _ wd_273) (fun _ h9 => h9) rfl dX9_open_1 ?_
  refine lv_aload_n hx hb dX9_open_4 rfl (lv_at hl 0 rfl) ?_
  refine tk_getP (D := (dC, dI)) (ci := 9) (v := .ref a_3) (C := RX9) (T := TX9) (N := 3) hx hb hU inlX9 hown hK hP mo0 hfo_1 rfl 1 (by decide) (hU _ wd_96) (fun _ h9 => h9) rfl dX9_open_5 ?_
  obtain ⟨g_6, hfo_5, hbg_6⟩ := un_505 (hG _ ma_3) ka_3
  refine tk_alenP (v := 12) hx hb hK hP 0 ma_3 hfo_5 rfl rfl dX9_open_8 ?_
  have hcut_9 : ∀ (f_8 : Nat → va_E), GI (okc cI cL cZ cR cG cH L kd) kd L f_8 → ∀ (H : Heap) (locs : List Loc), va_P (dC, dI) vwCl (va_pl L f_8) H → va_S (fun q => q ∈ L) s.heap H locs → va_D (fun q => q ∈ L) (va_pl L f_8) → (∀ b, kd b ≠ 9 → kd b ≠ 505 → f_8 b = f b) → ∀ (ls : Array Slot), lv_has ls 1 [(0, .ref o0)] → W p l e (headSpec (wU yX9_open cX9_open 1 none) { frames := 0, cells := 0, slots := 0, locals := 0 }).room s m [.ref o0].toArray below meth c H locs 0 0 (MQ below (va_Qv (fun (f9 : Nat → va_E) => GI (okc cI cL cZ cR cG cH L kd) kd L f9 ∧ (∀ b, kd b ≠ 9 → kd b ≠ 505 → f9 b = f b)) (qP (dC, dI) cI cL cZ cR cG cH L) (fun q => q ∈ L)) [.ref o0].toArray s 0 0 (fun q => q ∈ L)) (F0 m 32 ls []) := by
    intro f_8 hG H locs hP hS hD hfr0 ls hl
    exact W.vret hx hb hr (fun t ht hW => ⟨⟨f_8, rfl, ⟨hG, hfr0⟩, by rw [ht]; exact hP, va_K.moved hW.alike hK, pl_in hD⟩, hS.F ht⟩) hS.2.2 dX9_open_32
  refine lv_icmp_ge (tgt := 32) hx hb dX9_open_9 (by decide) (fun c_10 => ?_) (fun c_10 => ?_)
  · skip
    rw [Int32.le_iff_toInt_le, ti_12] at c_10
    exact hcut_9 f hG _ _ hP hS hD hfr0 ls (lv_sub hl [0] rfl)
  · skip
    rw [Int32.le_iff_toInt_le, ti_12] at c_10
    refine lv_aload_n hx hb dX9_open_12 rfl (lv_at hl 0 rfl) ?_
    refine tk_getP (D := (dC, dI)) (ci := 9) (v := .ref a_3) (C := RX9) (T := TX9) (N := 3) hx hb hU inlX9 hown hK hP mo0 hfo_1 rfl 1 (by decide) (hU _ wd_96) (fun _ h9 => h9) rfl dX9_open_13 ?_
    refine lv_aload_n hx hb dX9_open_16 rfl (lv_at hl 0 rfl) ?_
    refine tk_getP (D := (dC, dI)) (ci := 9) (v := .int v_4) (C := RX9) (T := TX9) (N := 3) hx hb hU inlX9 hown hK hP mo0 hfo_1 rfl 2 (by decide) (hU _ wd_273) (fun _ h9 => h9) rfl dX9_open_17 ?_
    refine lv_iconst (v := 0) hx hb dX9_open_20 (by decide) ?_
    refine tk_istP hx hb hK hP hD hS 0 ma_3 hfo_5 rfl (vp_in_iff.mpr (by constructor <;> omega)) dX9_open_21 (fun H locs hP hD hS => ?_)
    obtain ⟨f_12, ef_12⟩ : ∃ y : Nat → va_E, y = va_up f a_3 (.inl (cI, 12, .inl (upd g_6 (Int32.toNatClampNeg v_4) 0))) := ⟨_, rfl⟩
    have hP : va_P (dC, dI) vwCl (va_pl L f_12) H := by rw [ef_12]; exact hP
    have hD : va_D (fun q => q ∈ L) (va_pl L f_12) := by rw [ef_12]; exact hD
    have hG : GI (okc cI cL cZ cR cG cH L kd) kd L f_12 := by rw [ef_12]; exact hG.set a_3 (mk_505 ka_3 ⟨_, rfl, okI_up hbg_6 (by decide) _⟩)
    have hfo_13 : f_12 o0 = .inr (9, [.ref a_2, .ref a_3, .int v_4]) := by rw [ef_12, up_ne (kd_ne ka_3 ko0 (by decide))]; exact hfo_1
    have hfr0 : ∀ b, kd b ≠ 9 → kd b ≠ 505 → f_12 b = f b := fun b q9 q505 => (congrFun ef_12 b).trans ((up_ne (fun e9 => q505 (by rw [e9]; exact ka_3))).trans (hfr0 b q9 q505))
    have hfo_14 : f_12 a_3 = .inl (cI, 12, .inl (upd g_6 (Int32.toNatClampNeg v_4) 0)) := by rw [ef_12]; exact up_self
    refine lv_aload_n hx hb dX9_open_22 rfl (lv_at hl 0 rfl) ?_
    refine lv_dup hx hb dX9_open_23 rfl ?_
    refine tk_getP (D := (dC, dI)) (ci := 9) (v := .int v_4) (C := RX9) (T := TX9) (N := 3) hx hb hU inlX9 hown hK hP mo0 hfo_13 rfl 2 (by decide) (hU _ wd_273) (fun _ h9 => h9) rfl dX9_open_24 ?_
    refine lv_iconst (v := 1) hx hb dX9_open_27 (by decide) ?_
    refine lv_iadd hx hb dX9_open_28 ?_
    refine lv_topi (fun x_15 ex_15 => ?_)
    have hx_15 : x_15.toInt = v_4.toInt + 1 := by rw [ex_15, ad_I (by rw [ti_1]; omega) (by rw [ti_1]; omega), ti_1]
    have bx_15 : (1 ≤ x_15.toInt ∧ x_15.toInt ≤ 12) := by constructor <;> omega
    refine tk_putP (D := (dC, dI)) (ci := 9) (v := .int x_15) (ty := .int) (C := RX9) (T := TX9) (N := 3) hx hb hU inlX9 tyX9 tyX9_ok nmX9 hown hK hP hD hS mo0 hfo_13 rfl 2 (by decide) (hU _ wd_273) (fun _ h9 => h9) rfl (by decide +kernel) rfl rfl (Nat.le_of_ble_eq_true rfl) dX9_open_29 (fun H locs hP hD hS => ?_)
    obtain ⟨f_17, ef_17⟩ : ∃ y : Nat → va_E, y = va_up f_12 o0 (.inr (9, [.ref a_2, .ref a_3, .int x_15])) := ⟨_, rfl⟩
    have hP : va_P (dC, dI) vwCl (va_pl L f_17) H := by rw [ef_17]; exact hP
    have hD : va_D (fun q => q ∈ L) (va_pl L f_17) := by rw [ef_17]; exact hD
    have hG : GI (okc cI cL cZ cR cG cH L kd) kd L f_17 := by rw [ef_17]; exact hG.set o0 (mk_9 ko0 ⟨a_2, a_3, x_15, rfl, ⟨ma_2, ka_2⟩, ⟨ma_3, ka_3⟩, (by constructor <;> omega)⟩)
    have hfr0 : ∀ b, kd b ≠ 9 → kd b ≠ 505 → f_17 b = f b := fun b q9 q505 => (congrFun ef_17 b).trans ((up_ne (fun e9 => q9 (by rw [e9]; exact ko0))).trans (hfr0 b q9 q505))
    have hfo_18 : f_17 o0 = .inr (9, [.ref a_2, .ref a_3, .int x_15]) := by rw [ef_17]; exact up_self
    exact hcut_9 f_17 hG _ _ hP hS hD hfr0 ls (lv_sub hl [0] rfl)
set_option maxHeartbeats 8000000 in
set_option maxRecDepth 100000 in
theorem s_X9_push_k9 (l : Launch) (D : va_G) (cI cL cZ cR cG cH : ClassId) (Z : zT) (kd : Nat → Nat) (L : List Nat) (f : Nat → va_E) (hG : GI (okc cI cL cZ cR cG cH L kd) kd L f) (o0 : Nat) (mo0 : o0 ∈ L) (ko0 : kd o0 = 9) (p1 : Int32) (bp1 : (0 ≤ p1.toInt ∧ p1.toInt ≤ 8)) : mPV l D cI cL cZ cR cG cH Z yX9_push cX9_push 3 none 0 0 [.ref o0, .int p1] L f (fun (f9 : Nat → va_E) => GI (okc cI cL cZ cR cG cH L kd) kd L f9 ∧ (∀ b, kd b ≠ 504 → kd b ≠ 505 → f9 b = f b)) := by
  obtain ⟨dC, dI⟩ := D
  refine Met.ofW (cc := cX9_push) (maxL := 3) (ret := none) (by decide) rfl ?_
  intro p e s m args below meth c s₁ B hml hv
  obtain ⟨rfl, hP, hK, hD0, hN, hZ⟩ := hv
  have hx := B.exec
  have hb := B.bytes
  have hr := B.returns
  have hU : ∀ w ∈ wsU, w.before _ s = true := fun w h => atoms_spec (ws := wU yX9_push cX9_push 3 none) B.pre w (List.mem_cons_of_mem _ h)
  have hown : s.vm.findClass RX9 = some m.cls := findClass_of_methodNamed B.named
  have hlocks := B.notSynchronized
  have hD := pl_in hD0
  have hS : va_S (fun q => q ∈ L) s.heap s.heap [] := va_S.rf
  have hl := lv_entry ([.ref o0, .int p1]) (n := 3) (Nat.le_of_ble_eq_true rfl)
  rw [lg_entry_eq]
  generalize (lg_sl ([.ref o0, .int p1]) ++ List.replicate (3 - (lg_sl ([.ref o0, .int p1])).length) Slot.unset).toArray = ls at hl ⊢
  have hl : lv_has ls 3 [(0, .ref o0), (1, .int p1)] := hl
  have hfr0 : ∀ b, kd b ≠ 504 → kd b ≠ 505 → f b = f b := fun _ _ _ => rfl
  refine lv_aload_n hx hb dX9_push_0 rfl (lv_at hl 0 rfl) ?_
  obtain ⟨a_2, a_3, v_4, hfo_1, ⟨ma_2, ka_2⟩, ⟨ma_3, ka_3⟩, bv_4⟩ := un_9 (hG _ mo0) ko0
  refine tk_getP (D := (dC, dI)) (ci := 9) (v := .int v_4) (C := RX9) (T := TX9) (N := 3) hx hb hU inlX9 hown hK hP mo0 hfo_1 rfl 2 (by decide) (hU _ wd_273) (fun _ h9 => h9) rfl dX9_push_1 ?_
  refine lv_iconst (v := 1) hx hb dX9_push_4 (by decide) ?_
  refine lv_isub hx hb dX9_push_5 ?_
  refine lv_topi (fun x_5 ex_5 => ?_)
  have hx_5 : x_5.toInt = v_4.toInt - 1 := by rw [ex_5, sb_I (by rw [ti_1]; omega) (by rw [ti_1]; omega), ti_1]
  have bx_5 : ((-1) ≤ x_5.toInt ∧ x_5.toInt ≤ 11) := by constructor <;> omega
  refine lv_istore_n (lv' := [(2, .int x_5), (0, .ref o0), (1, .int p1)]) hx hb dX9_push_6 rfl hl (by decide) rfl (fun ls hl => ?_)
  refine lv_iload_n hx hb dX9_push_7 rfl (lv_at hl 0 rfl) ?_
  have hcut_9 : ∀ (f_7 : Nat → va_E), GI (okc cI cL cZ cR cG cH L kd) kd L f_7 → ∀ (H : Heap) (locs : List Loc), va_P (dC, dI) vwCl (va_pl L f_7) H → va_S (fun q => q ∈ L) s.heap H locs → va_D (fun q => q ∈ L) (va_pl L f_7) → (∀ b, kd b ≠ 504 → kd b ≠ 505 → f_7 b = f b) → (f_7 o0 = .inr (9, [.ref a_2, .ref a_3, .int v_4])) → ∀ (ls : Array Slot), lv_has ls 3 [(2, .int x_5), (0, .ref o0), (1, .int p1)] → W p l e (headSpec (wU yX9_push cX9_push 3 none) { frames := 0, cells := 0, slots := 0, locals := 0 }).room s m [.ref o0, .int p1].toArray below meth c H locs 0 0 (MQ below (va_Qv (fun (f9 : Nat → va_E) => GI (okc cI cL cZ cR cG cH L kd) kd L f9 ∧ (∀ b, kd b ≠ 504 → kd b ≠ 505 → f9 b = f b)) (qP (dC, dI) cI cL cZ cR cG cH L) (fun q => q ∈ L)) [.ref o0, .int p1].toArray s 0 0 (fun q => q ∈ L)) (F0 m 49 ls []) := by
    intro f_7 hG H locs hP hS hD hfr0 hfo_8 ls hl
    exact W.vret hx hb hr (fun t ht hW => ⟨⟨f_7, rfl, ⟨hG, hfr0⟩, by rw [ht]; exact hP, va_K.moved hW.alike hK, pl_in hD⟩, hS.F ht⟩) hS.2.2 dX9_push_49
  refine lv_if_lt (tgt := 49) hx hb dX9_push_8 (by decide) (fun c_10 => ?_) (fun c_10 => ?_)
  · skip
    rw [Int32.lt_iff_toInt_lt, ti_0] at c_10
    exact hcut_9 f hG _ _ hP hS hD hfr0 hfo_1 ls (lv_sub hl [0, 1, 2] rfl)
  · skip
    rw [Int32.lt_iff_toInt_lt, ti_0] at c_10
    refine lv_aload_n hx hb dX9_push_11 rfl (lv_at hl 1 rfl) ?_
    refine tk_getP (D := (dC, dI)) (ci := 9) (v := .ref a_3) (C := RX9) (T := TX9) (N := 3) hx hb hU inlX9 hown hK hP mo0 hfo_1 rfl 1 (by decide) (hU _ wd_96) (fun _ h9 => h9) rfl dX9_push_12 ?_
    refine lv_iload_n hx hb dX9_push_15 rfl (lv_at hl 0 rfl) ?_
    obtain ⟨g_12, hfo_11, hbg_12⟩ := un_505 (hG _ ma_3) ka_3
    refine tk_ildP hx hb hK hP 0 ma_3 hfo_11 rfl (vp_in_iff.mpr (by constructor <;> omega)) dX9_push_16 ?_
    refine lv_topi (fun x_13 ex_13 => ?_)
    have bx_13 : (0 ≤ x_13.toInt ∧ x_13.toInt ≤ 8) := by rw [ex_13]; exact hbg_12 _
    refine lv_bipush (v := 8) hx hb dX9_push_17 (by decide) ?_
    refine lv_icmp_ge (tgt := 49) hx hb dX9_push_19 (by decide) (fun c_14 => ?_) (fun c_14 => ?_)
    · skip
      rw [Int32.le_iff_toInt_le, ti_8] at c_14
      exact hcut_9 f hG _ _ hP hS hD hfr0 hfo_1 ls (lv_sub hl [0, 1, 2] rfl)
    · skip
      rw [Int32.le_iff_toInt_le, ti_8] at c_14
      refine lv_aload_n hx hb dX9_push_22 rfl (lv_at hl 1 rfl) ?_
      refine tk_getP (D := (dC, dI)) (ci := 9) (v := .ref a_2) (C := RX9) (T := TX9) (N := 3) hx hb hU inlX9 hown hK hP mo0 hfo_1 rfl 0 (by decide) (hU _ wd_95) (fun _ h9 => h9) rfl dX9_push_23 ?_
      refine lv_iload_n hx hb dX9_push_26 rfl (lv_at hl 0 rfl) ?_
      refine lv_bipush (v := 8) hx hb dX9_push_27 (by decide) ?_
      refine lv_imul hx hb dX9_push_29 ?_
      refine lv_topi (fun x_15 ex_15 => ?_)
      have hx_15 : x_15.toInt = x_5.toInt * 8 := by rw [ex_15, ml_I (by rw [ti_8]; omega) (by rw [ti_8]; omega), ti_8]
      have bx_15 : (0 ≤ x_15.toInt ∧ x_15.toInt ≤ 88) := by constructor <;> omega
      refine lv_aload_n hx hb dX9_push_30 rfl (lv_at hl 1 rfl) ?_
      refine tk_getP (D := (dC, dI)) (ci := 9) (v := .ref a_3) (C := RX9) (T := TX9) (N := 3) hx hb hU inlX9 hown hK hP mo0 hfo_1 rfl 1 (by decide) (hU _ wd_96) (fun _ h9 => h9) rfl dX9_push_31 ?_
      refine lv_iload_n hx hb dX9_push_34 rfl (lv_at hl 0 rfl) ?_
      refine tk_ildP hx hb hK hP 0 ma_3 hfo_11 rfl (vp_in_iff.mpr (by constructor <;> omega)) dX9_push_35 ?_
      refine tk_topi (y := x_13) ex_13.symm ?_
      refine lv_iadd hx hb dX9_push_36 ?_
      refine lv_topi (fun x_16 ex_16 => ?_)
      have hx_16 : x_16.toInt = x_15.toInt + x_13.toInt := by rw [ex_16, ad_I (by omega) (by omega)]
      have bx_16 : (0 ≤ x_16.toInt ∧ x_16.toInt ≤ 95) := by constructor <;> omega
      refine lv_iload_n hx hb dX9_push_37 rfl (lv_at hl 2 rfl) ?_
      obtain ⟨g_18, hfo_17, hbg_18⟩ := un_504 (hG _ ma_2) ka_2
      refine tk_istP hx hb hK hP hD hS 0 ma_2 hfo_17 rfl (vp_in_iff.mpr (by constructor <;> omega)) dX9_push_38 (fun H locs hP hD hS => ?_)
      obtain ⟨f_20, ef_20⟩ : ∃ y : Nat → va_E, y = va_up f a_2 (.inl (cI, 96, .inl (upd g_18 (Int32.toNatClampNeg x_16) p1))) := ⟨_, rfl⟩
      have hP : va_P (dC, dI) vwCl (va_pl L f_20) H := by rw [ef_20]; exact hP
      have hD : va_D (fun q => q ∈ L) (va_pl L f_20) := by rw [ef_20]; exact hD
      have hG : GI (okc cI cL cZ cR cG cH L kd) kd L f_20 := by rw [ef_20]; exact hG.set a_2 (mk_504 ka_2 ⟨_, rfl, okI_up hbg_18 (by constructor <;> omega) _⟩)
      have hfo_21 : f_20 o0 = .inr (9, [.ref a_2, .ref a_3, .int v_4]) := by rw [ef_20, up_ne (kd_ne ka_2 ko0 (by decide))]; exact hfo_1
      have hfo_22 : f_20 a_3 = .inl (cI, 12, .inl g_12) := by rw [ef_20, up_ne (kd_ne ka_2 ka_3 (by decide))]; exact hfo_11
      have hfr0 : ∀ b, kd b ≠ 504 → kd b ≠ 505 → f_20 b = f b := fun b q504 q505 => (congrFun ef_20 b).trans ((up_ne (fun e9 => q504 (by rw [e9]; exact ka_2))).trans (hfr0 b q504 q505))
      have hfo_23 : f_20 a_2 = .inl (cI, 96, .inl (upd g_18 (Int32.toNatClampNeg x_16) p1)) := by rw [ef_20]; exact up_self
      refine lv_aload_n hx hb dX9_push_39 rfl (lv_at hl 1 rfl) ?_
      refine tk_getP (D := (dC, dI)) (ci := 9) (v := .ref a_3) (C := RX9) (T := TX9) (N := 3) hx hb hU inlX9 hown hK hP mo0 hfo_21 rfl 1 (by decide) (hU _ wd_96) (fun _ h9 => h9) rfl dX9_push_40 ?_
      refine lv_iload_n hx hb dX9_push_43 rfl (lv_at hl 0 rfl) ?_
      refine lv_dup2_11 hx hb dX9_push_44 rfl rfl ?_
      refine tk_ildP hx hb hK hP 0 ma_3 hfo_22 rfl (vp_in_iff.mpr (by constructor <;> omega)) dX9_push_45 ?_
      refine tk_topi (y := x_13) ex_13.symm ?_
      refine lv_iconst (v := 1) hx hb dX9_push_46 (by decide) ?_
      refine lv_iadd hx hb dX9_push_47 ?_
      refine lv_topi (fun x_24 ex_24 => ?_)
      have hx_24 : x_24.toInt = x_13.toInt + 1 := by rw [ex_24, ad_I (by rw [ti_1]; omega) (by rw [ti_1]; omega), ti_1]
      have bx_24 : (1 ≤ x_24.toInt ∧ x_24.toInt ≤ 8) := by constructor <;> omega
      refine tk_istP hx hb hK hP hD hS 0 ma_3 hfo_22 rfl (vp_in_iff.mpr (by constructor <;> omega)) dX9_push_48 (fun H locs hP hD hS => ?_)
      obtain ⟨f_26, ef_26⟩ : ∃ y : Nat → va_E, y = va_up f_20 a_3 (.inl (cI, 12, .inl (upd g_12 (Int32.toNatClampNeg x_5) x_24))) := ⟨_, rfl⟩
      have hP : va_P (dC, dI) vwCl (va_pl L f_26) H := by rw [ef_26]; exact hP
      have hD : va_D (fun q => q ∈ L) (va_pl L f_26) := by rw [ef_26]; exact hD
      have hG : GI (okc cI cL cZ cR cG cH L kd) kd L f_26 := by rw [ef_26]; exact hG.set a_3 (mk_505 ka_3 ⟨_, rfl, okI_up hbg_12 (by constructor <;> omega) _⟩)
      have hfo_27 : f_26 o0 = .inr (9, [.ref a_2, .ref a_3, .int v_4]) := by rw [ef_26, up_ne (kd_ne ka_3 ko0 (by decide))]; exact hfo_21
      have hfr0 : ∀ b, kd b ≠ 504 → kd b ≠ 505 → f_26 b = f b := fun b q504 q505 => (congrFun ef_26 b).trans ((up_ne (fun e9 => q505 (by rw [e9]; exact ka_3))).trans (hfr0 b q504 q505))
      have hfo_28 : f_26 a_3 = .inl (cI, 12, .inl (upd g_12 (Int32.toNatClampNeg x_5) x_24)) := by rw [ef_26]; exact up_self
      exact hcut_9 f_26 hG _ _ hP hS hD hfr0 hfo_27 ls (lv_sub hl [0, 1, 2] rfl)
set_option maxHeartbeats 8000000 in
set_option maxRecDepth 100000 in
theorem s_X9_open_k209 (l : Launch) (D : va_G) (cI cL cZ cR cG cH : ClassId) (Z : zT) (kd : Nat → Nat) (L : List Nat) (f : Nat → va_E) (hG : GI (okc cI cL cZ cR cG cH L kd) kd L f) (o0 : Nat) (mo0 : o0 ∈ L) (ko0 : kd o0 = 209) : mPV l D cI cL cZ cR cG cH Z yX9_open cX9_open 1 none 0 0 [.ref o0] L f (fun (f9 : Nat → va_E) => GI (okc cI cL cZ cR cG cH L kd) kd L f9 ∧ (∀ b, kd b ≠ 209 → kd b ≠ 563 → f9 b = f b)) := by
  obtain ⟨dC, dI⟩ := D
  refine Met.ofW (cc := cX9_open) (maxL := 1) (ret := none) (by decide) rfl ?_
  intro p e s m args below meth c s₁ B hml hv
  obtain ⟨rfl, hP, hK, hD0, hN, hZ⟩ := hv
  have hx := B.exec
  have hb := B.bytes
  have hr := B.returns
  have hU : ∀ w ∈ wsU, w.before _ s = true := fun w h => atoms_spec (ws := wU yX9_open cX9_open 1 none) B.pre w (List.mem_cons_of_mem _ h)
  have hown : s.vm.findClass RX9 = some m.cls := findClass_of_methodNamed B.named
  have hlocks := B.notSynchronized
  have hD := pl_in hD0
  have hS : va_S (fun q => q ∈ L) s.heap s.heap [] := va_S.rf
  have hl := lv_entry ([.ref o0]) (n := 1) (Nat.le_of_ble_eq_true rfl)
  rw [lg_entry_eq]
  generalize (lg_sl ([.ref o0]) ++ List.replicate (1 - (lg_sl ([.ref o0])).length) Slot.unset).toArray = ls at hl ⊢
  have hl : lv_has ls 1 [(0, .ref o0)] := hl
  have hfr0 : ∀ b, kd b ≠ 209 → kd b ≠ 563 → f b = f b := fun _ _ _ => rfl
  refine lv_aload_n hx hb dX9_open_0 rfl (lv_at hl 0 rfl) ?_
  obtain ⟨a_2, a_3, v_4, hfo_1, ⟨ma_2, ka_2⟩, ⟨ma_3, ka_3⟩, bv_4⟩ := un_209 (hG _ mo0) ko0
  refine tk_getP (D := (dC, dI)) (ci := 9) (v := .int v_4) (C := RX9) (T := TX9) (N := 3) hx hb hU inlX9 hown hK hP mo0 hfo_1 rfl 2 (by decide) (hU _ wd_273) (fun _ h9 => h9) rfl dX9_open_1 ?_
  refine lv_aload_n hx hb dX9_open_4 rfl (lv_at hl 0 rfl) ?_
  refine tk_getP (D := (dC, dI)) (ci := 9) (v := .ref a_3) (C := RX9) (T := TX9) (N := 3) hx hb hU inlX9 hown hK hP mo0 hfo_1 rfl 1 (by decide) (hU _ wd_96) (fun _ h9 => h9) rfl dX9_open_5 ?_
  obtain ⟨g_6, hfo_5, hbg_6⟩ := un_563 (hG _ ma_3) ka_3
  refine tk_alenP (v := 12) hx hb hK hP 0 ma_3 hfo_5 rfl rfl dX9_open_8 ?_
  have hcut_9 : ∀ (f_8 : Nat → va_E), GI (okc cI cL cZ cR cG cH L kd) kd L f_8 → ∀ (H : Heap) (locs : List Loc), va_P (dC, dI) vwCl (va_pl L f_8) H → va_S (fun q => q ∈ L) s.heap H locs → va_D (fun q => q ∈ L) (va_pl L f_8) → (∀ b, kd b ≠ 209 → kd b ≠ 563 → f_8 b = f b) → ∀ (ls : Array Slot), lv_has ls 1 [(0, .ref o0)] → W p l e (headSpec (wU yX9_open cX9_open 1 none) { frames := 0, cells := 0, slots := 0, locals := 0 }).room s m [.ref o0].toArray below meth c H locs 0 0 (MQ below (va_Qv (fun (f9 : Nat → va_E) => GI (okc cI cL cZ cR cG cH L kd) kd L f9 ∧ (∀ b, kd b ≠ 209 → kd b ≠ 563 → f9 b = f b)) (qP (dC, dI) cI cL cZ cR cG cH L) (fun q => q ∈ L)) [.ref o0].toArray s 0 0 (fun q => q ∈ L)) (F0 m 32 ls []) := by
    intro f_8 hG H locs hP hS hD hfr0 ls hl
    exact W.vret hx hb hr (fun t ht hW => ⟨⟨f_8, rfl, ⟨hG, hfr0⟩, by rw [ht]; exact hP, va_K.moved hW.alike hK, pl_in hD⟩, hS.F ht⟩) hS.2.2 dX9_open_32
  refine lv_icmp_ge (tgt := 32) hx hb dX9_open_9 (by decide) (fun c_10 => ?_) (fun c_10 => ?_)
  · skip
    rw [Int32.le_iff_toInt_le, ti_12] at c_10
    exact hcut_9 f hG _ _ hP hS hD hfr0 ls (lv_sub hl [0] rfl)
  · skip
    rw [Int32.le_iff_toInt_le, ti_12] at c_10
    refine lv_aload_n hx hb dX9_open_12 rfl (lv_at hl 0 rfl) ?_
    refine tk_getP (D := (dC, dI)) (ci := 9) (v := .ref a_3) (C := RX9) (T := TX9) (N := 3) hx hb hU inlX9 hown hK hP mo0 hfo_1 rfl 1 (by decide) (hU _ wd_96) (fun _ h9 => h9) rfl dX9_open_13 ?_
    refine lv_aload_n hx hb dX9_open_16 rfl (lv_at hl 0 rfl) ?_
    refine tk_getP (D := (dC, dI)) (ci := 9) (v := .int v_4) (C := RX9) (T := TX9) (N := 3) hx hb hU inlX9 hown hK hP mo0 hfo_1 rfl 2 (by decide) (hU _ wd_273) (fun _ h9 => h9) rfl dX9_open_17 ?_
    refine lv_iconst (v := 0) hx hb dX9_open_20 (by decide) ?_
    refine tk_istP hx hb hK hP hD hS 0 ma_3 hfo_5 rfl (vp_in_iff.mpr (by constructor <;> omega)) dX9_open_21 (fun H locs hP hD hS => ?_)
    obtain ⟨f_12, ef_12⟩ : ∃ y : Nat → va_E, y = va_up f a_3 (.inl (cI, 12, .inl (upd g_6 (Int32.toNatClampNeg v_4) 0))) := ⟨_, rfl⟩
    have hP : va_P (dC, dI) vwCl (va_pl L f_12) H := by rw [ef_12]; exact hP
    have hD : va_D (fun q => q ∈ L) (va_pl L f_12) := by rw [ef_12]; exact hD
    have hG : GI (okc cI cL cZ cR cG cH L kd) kd L f_12 := by rw [ef_12]; exact hG.set a_3 (mk_563 ka_3 ⟨_, rfl, okI_up hbg_6 (by decide) _⟩)
    have hfo_13 : f_12 o0 = .inr (9, [.ref a_2, .ref a_3, .int v_4]) := by rw [ef_12, up_ne (kd_ne ka_3 ko0 (by decide))]; exact hfo_1
    have hfr0 : ∀ b, kd b ≠ 209 → kd b ≠ 563 → f_12 b = f b := fun b q209 q563 => (congrFun ef_12 b).trans ((up_ne (fun e9 => q563 (by rw [e9]; exact ka_3))).trans (hfr0 b q209 q563))
    have hfo_14 : f_12 a_3 = .inl (cI, 12, .inl (upd g_6 (Int32.toNatClampNeg v_4) 0)) := by rw [ef_12]; exact up_self
    refine lv_aload_n hx hb dX9_open_22 rfl (lv_at hl 0 rfl) ?_
    refine lv_dup hx hb dX9_open_23 rfl ?_
    refine tk_getP (D := (dC, dI)) (ci := 9) (v := .int v_4) (C := RX9) (T := TX9) (N := 3) hx hb hU inlX9 hown hK hP mo0 hfo_13 rfl 2 (by decide) (hU _ wd_273) (fun _ h9 => h9) rfl dX9_open_24 ?_
    refine lv_iconst (v := 1) hx hb dX9_open_27 (by decide) ?_
    refine lv_iadd hx hb dX9_open_28 ?_
    refine lv_topi (fun x_15 ex_15 => ?_)
    have hx_15 : x_15.toInt = v_4.toInt + 1 := by rw [ex_15, ad_I (by rw [ti_1]; omega) (by rw [ti_1]; omega), ti_1]
    have bx_15 : (1 ≤ x_15.toInt ∧ x_15.toInt ≤ 12) := by constructor <;> omega
    refine tk_putP (D := (dC, dI)) (ci := 9) (v := .int x_15) (ty := .int) (C := RX9) (T := TX9) (N := 3) hx hb hU inlX9 tyX9 tyX9_ok nmX9 hown hK hP hD hS mo0 hfo_13 rfl 2 (by decide) (hU _ wd_273) (fun _ h9 => h9) rfl (by decide +kernel) rfl rfl (Nat.le_of_ble_eq_true rfl) dX9_open_29 (fun H locs hP hD hS => ?_)
    obtain ⟨f_17, ef_17⟩ : ∃ y : Nat → va_E, y = va_up f_12 o0 (.inr (9, [.ref a_2, .ref a_3, .int x_15])) := ⟨_, rfl⟩
    have hP : va_P (dC, dI) vwCl (va_pl L f_17) H := by rw [ef_17]; exact hP
    have hD : va_D (fun q => q ∈ L) (va_pl L f_17) := by rw [ef_17]; exact hD
    have hG : GI (okc cI cL cZ cR cG cH L kd) kd L f_17 := by rw [ef_17]; exact hG.set o0 (mk_209 ko0 ⟨a_2, a_3, x_15, rfl, ⟨ma_2, ka_2⟩, ⟨ma_3, ka_3⟩, (by constructor <;> omega)⟩)
    have hfr0 : ∀ b, kd b ≠ 209 → kd b ≠ 563 → f_17 b = f b := fun b q209 q563 => (congrFun ef_17 b).trans ((up_ne (fun e9 => q209 (by rw [e9]; exact ko0))).trans (hfr0 b q209 q563))
    have hfo_18 : f_17 o0 = .inr (9, [.ref a_2, .ref a_3, .int x_15]) := by rw [ef_17]; exact up_self
    exact hcut_9 f_17 hG _ _ hP hS hD hfr0 ls (lv_sub hl [0] rfl)
