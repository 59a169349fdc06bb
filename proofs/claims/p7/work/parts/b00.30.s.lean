set_option maxHeartbeats 8000000 in
set_option maxRecDepth 100000 in
theorem s_X11_meant_k11 (l : Launch) (D : va_G) (cI cL cZ cR cG cH : ClassId) (Z : zT) (kd : Nat → Nat) (L : List Nat) (f : Nat → va_E) (hG : GI (okc cI cL cZ cR cG cH L kd) kd L f) (o0 : Nat) (mo0 : o0 ∈ L) (ko0 : kd o0 = 11) (p1 : Int32) (p2 : Int32) : mPI l D cI cL cZ cR cG cH Z yX11_meant cX11_meant 3 (some .int) 0 0 [.ref o0, .int p1, .int p2] L f (fun (r : Int32) (f9 : Nat → va_E) => f = f9 ∧ ((-2147483648) ≤ r.toInt ∧ r.toInt ≤ 2147483647)) := by
  obtain ⟨dC, dI⟩ := D
  refine Met.ofW (cc := cX11_meant) (maxL := 3) (ret := (some .int)) (by decide) rfl ?_
  intro p e s m args below meth c s₁ B hml hv
  obtain ⟨rfl, hP, hK, hD0, hN, hZ⟩ := hv
  have hx := B.exec
  have hb := B.bytes
  have hr := B.returns
  have hU : ∀ w ∈ wsU, w.before _ s = true := fun w h => atoms_spec (ws := wU yX11_meant cX11_meant 3 (some .int)) B.pre w (List.mem_cons_of_mem _ h)
  have hown : s.vm.findClass RX11 = some m.cls := findClass_of_methodNamed B.named
  have hlocks := B.notSynchronized
  have hD := pl_in hD0
  have hS : va_S (fun q => q ∈ L) s.heap s.heap [] := va_S.rf
  have hl := lv_entry ([.ref o0, .int p1, .int p2]) (n := 3) (Nat.le_of_ble_eq_true rfl)
  rw [lg_entry_eq]
  generalize (lg_sl ([.ref o0, .int p1, .int p2]) ++ List.replicate (3 - (lg_sl ([.ref o0, .int p1, .int p2])).length) Slot.unset).toArray = ls at hl ⊢
  have hl : lv_has ls 3 [(0, .ref o0), (1, .int p1), (2, .int p2)] := hl
  have bp1 : ((-2147483648) ≤ p1.toInt ∧ p1.toInt ≤ 2147483647) := ⟨i32_lo _, i32_hi _⟩
  have bp2 : ((-2147483648) ≤ p2.toInt ∧ p2.toInt ≤ 2147483647) := ⟨i32_lo _, i32_hi _⟩
  refine lv_iload_n hx hb dX11_meant_0 rfl (lv_at hl 1 rfl) ?_
  refine lv_if_lt (tgt := 21) hx hb dX11_meant_1 (by decide) (fun c_1 => ?_) (fun c_1 => ?_)
  · skip
    rw [Int32.lt_iff_toInt_lt, ti_0] at c_1
    refine lv_iconst (v := (-1)) hx hb dX11_meant_21 (by decide) ?_
    exact W.iret (v := (-1)) hx hb hr (fun t ht hW => ⟨⟨(-1), f, rfl, ⟨rfl, (by decide)⟩, by rw [ht]; exact hP, va_K.moved hW.alike hK, pl_in hD⟩, hS.F ht⟩) hS.2.2 dX11_meant_22
  · skip
    rw [Int32.lt_iff_toInt_lt, ti_0] at c_1
    refine lv_iload_n hx hb dX11_meant_4 rfl (lv_at hl 1 rfl) ?_
    refine lv_aload_n hx hb dX11_meant_5 rfl (lv_at hl 0 rfl) ?_
    obtain ⟨a_3, v_4, a_5, a_6, a_7, a_8, a_9, a_10, v_11, a_12, a_13, a_14, v_15, v_16, a_17, v_18, a_19, a_20, v_21, hfo_2, ⟨ma_3, ka_3⟩, bv_4, ⟨ma_5, ka_5⟩, ⟨ma_6, ka_6⟩, ⟨ma_7, ka_7⟩, ⟨ma_8, ka_8⟩, ⟨ma_9, ka_9⟩, ⟨ma_10, ka_10⟩, bv_11, ⟨ma_12, ka_12⟩, ⟨ma_13, ka_13⟩, ⟨ma_14, ka_14⟩, bv_15, ⟨ma_17, ka_17⟩, bv_18, ⟨ma_19, ka_19⟩, ⟨ma_20, ka_20⟩⟩ := un_11 (hG _ mo0) ko0
    have bv_16 : ((-2147483648) ≤ v_16.toInt ∧ v_16.toInt ≤ 2147483647) := ⟨i32_lo _, i32_hi _⟩
    have bv_21 : ((-2147483648) ≤ v_21.toInt ∧ v_21.toInt ≤ 2147483647) := ⟨i32_lo _, i32_hi _⟩
    refine tk_getP (D := (dC, dI)) (ci := 11) (v := .int v_15) (C := RX11) (T := TX11) (N := 19) hx hb hU inlX11 hown hK hP mo0 hfo_2 rfl 12 (by decide) (hU _ wd_237) (fun _ h9 => h9) rfl dX11_meant_6 ?_
    refine lv_icmp_ge (tgt := 21) hx hb dX11_meant_9 (by decide) (fun c_22 => ?_) (fun c_22 => ?_)
    · skip
      rw [Int32.le_iff_toInt_le] at c_22
      refine lv_iconst (v := (-1)) hx hb dX11_meant_21 (by decide) ?_
      exact W.iret (v := (-1)) hx hb hr (fun t ht hW => ⟨⟨(-1), f, rfl, ⟨rfl, (by decide)⟩, by rw [ht]; exact hP, va_K.moved hW.alike hK, pl_in hD⟩, hS.F ht⟩) hS.2.2 dX11_meant_22
    · skip
      rw [Int32.le_iff_toInt_le] at c_22
      refine lv_iload_n hx hb dX11_meant_12 rfl (lv_at hl 2 rfl) ?_
      refine lv_if_eq (tgt := 23) hx hb dX11_meant_13 (by decide) (fun c_23 => ?_) (fun c_23 => ?_)
      · skip
        rw [← Int32.toInt_inj, ti_0] at c_23
        refine lv_iload_n hx hb dX11_meant_23 rfl (lv_at hl 2 rfl) ?_
        refine lv_if_ne (tgt := 39) hx hb dX11_meant_24 (by decide) (fun c_24 => ?_) (fun c_24 => ?_)
        · skip
          rw [← Int32.toInt_inj, ti_0] at c_24
          exfalso
          omega
        · skip
          rw [← Int32.toInt_inj, ti_0] at c_24
          refine lv_aload_n hx hb dX11_meant_27 rfl (lv_at hl 0 rfl) ?_
          refine tk_getP (D := (dC, dI)) (ci := 11) (v := .ref a_14) (C := RX11) (T := TX11) (N := 19) hx hb hU inlX11 hown hK hP mo0 hfo_2 rfl 11 (by decide) (hU _ wd_39) (fun _ h9 => h9) rfl dX11_meant_28 ?_
          refine lv_iload_n hx hb dX11_meant_31 rfl (lv_at hl 1 rfl) ?_
          obtain ⟨g_26, hfo_25, hbg_26⟩ := un_539 (hG _ ma_14) ka_14
          refine tk_ildP hx hb hK hP 0 ma_14 hfo_25 rfl (vp_in_iff.mpr (by constructor <;> omega)) dX11_meant_32 ?_
          refine lv_topi (fun x_27 ex_27 => ?_)
          have bx_27 : ((-2147483648) ≤ x_27.toInt ∧ x_27.toInt ≤ 2147483647) := ⟨i32_lo _, i32_hi _⟩
          refine lv_bipush (v := 8) hx hb dX11_meant_33 (by decide) ?_
          refine lv_idiv hx hb dX11_meant_35 (by decide) ?_
          refine lv_topi (fun x_28 ex_28 => ?_)
          have bx_28 : ((-2147483648) ≤ x_28.toInt ∧ x_28.toInt ≤ 2147483647) := ⟨i32_lo _, i32_hi _⟩
          refine lv_goto (tgt := 48) hx hb dX11_meant_36 (by decide) ?_
          exact W.iret (v := x_28) hx hb hr (fun t ht hW => ⟨⟨x_28, f, rfl, ⟨rfl, (by constructor <;> omega)⟩, by rw [ht]; exact hP, va_K.moved hW.alike hK, pl_in hD⟩, hS.F ht⟩) hS.2.2 dX11_meant_48
      · skip
        rw [← Int32.toInt_inj, ti_0] at c_23
        refine lv_iload_n hx hb dX11_meant_16 rfl (lv_at hl 2 rfl) ?_
        refine lv_iconst (v := 1) hx hb dX11_meant_17 (by decide) ?_
        refine lv_icmp_eq (tgt := 23) hx hb dX11_meant_18 (by decide) (fun c_29 => ?_) (fun c_29 => ?_)
        · skip
          rw [← Int32.toInt_inj, ti_1] at c_29
          refine lv_iload_n hx hb dX11_meant_23 rfl (lv_at hl 2 rfl) ?_
          refine lv_if_ne (tgt := 39) hx hb dX11_meant_24 (by decide) (fun c_30 => ?_) (fun c_30 => ?_)
          · skip
            rw [← Int32.toInt_inj, ti_0] at c_30
            refine lv_aload_n hx hb dX11_meant_39 rfl (lv_at hl 0 rfl) ?_
            refine tk_getP (D := (dC, dI)) (ci := 11) (v := .ref a_14) (C := RX11) (T := TX11) (N := 19) hx hb hU inlX11 hown hK hP mo0 hfo_2 rfl 11 (by decide) (hU _ wd_39) (fun _ h9 => h9) rfl dX11_meant_40 ?_
            refine lv_iload_n hx hb dX11_meant_43 rfl (lv_at hl 1 rfl) ?_
            obtain ⟨g_32, hfo_31, hbg_32⟩ := un_539 (hG _ ma_14) ka_14
            refine tk_ildP hx hb hK hP 0 ma_14 hfo_31 rfl (vp_in_iff.mpr (by constructor <;> omega)) dX11_meant_44 ?_
            refine lv_topi (fun x_33 ex_33 => ?_)
            have bx_33 : ((-2147483648) ≤ x_33.toInt ∧ x_33.toInt ≤ 2147483647) := ⟨i32_lo _, i32_hi _⟩
            refine lv_bipush (v := 8) hx hb dX11_meant_45 (by decide) ?_
            refine lv_irem hx hb dX11_meant_47 (by decide) ?_
            refine lv_topi (fun x_34 ex_34 => ?_)
            have bx_34 : ((-2147483648) ≤ x_34.toInt ∧ x_34.toInt ≤ 2147483647) := ⟨i32_lo _, i32_hi _⟩
            exact W.iret (v := x_34) hx hb hr (fun t ht hW => ⟨⟨x_34, f, rfl, ⟨rfl, (by constructor <;> omega)⟩, by rw [ht]; exact hP, va_K.moved hW.alike hK, pl_in hD⟩, hS.F ht⟩) hS.2.2 dX11_meant_48
          · skip
            rw [← Int32.toInt_inj, ti_0] at c_30
            exfalso
            omega
        · skip
          rw [← Int32.toInt_inj, ti_1] at c_29
          refine lv_iconst (v := (-1)) hx hb dX11_meant_21 (by decide) ?_
          exact W.iret (v := (-1)) hx hb hr (fun t ht hW => ⟨⟨(-1), f, rfl, ⟨rfl, (by decide)⟩, by rw [ht]; exact hP, va_K.moved hW.alike hK, pl_in hD⟩, hS.F ht⟩) hS.2.2 dX11_meant_22
