set_option maxHeartbeats 8000000 in
set_option maxRecDepth 100000 in
theorem s_X12_isUsed_k12 (l : Launch) (D : va_G) (cI cL cZ cR cG cH : ClassId) (Z : zT) (kd : Nat → Nat) (L : List Nat) (f : Nat → va_E) (hG : GI (okc cI cL cZ cR cG cH L kd) kd L f) (o0 : Nat) (mo0 : o0 ∈ L) (ko0 : kd o0 = 12) (p1 : Int32) : mPI l D cI cL cZ cR cG cH Z yX12_isUsed cX12_isUsed 2 (some .boolean) 2 43 [.ref o0, .int p1] L f (fun (r : Int32) (f9 : Nat → va_E) => f = f9 ∧ (0 ≤ r.toInt ∧ r.toInt ≤ 1) ∧ (r.toInt = 0 ∨ (0 ≤ p1.toInt ∧ p1.toInt ≤ 7))) := by
  obtain ⟨dC, dI⟩ := D
  refine Met.ofW (cc := cX12_isUsed) (maxL := 2) (ret := (some .boolean)) (by decide) rfl ?_
  intro p e s m args below meth c s₁ B hml hv
  obtain ⟨rfl, hP, hK, hD0, hN, hZ⟩ := hv
  have hx := B.exec
  have hb := B.bytes
  have hr := B.returns
  have hU : ∀ w ∈ wsU, w.before _ s = true := fun w h => atoms_spec (ws := wU yX12_isUsed cX12_isUsed 2 (some .boolean)) B.pre w (List.mem_cons_of_mem _ h)
  have hown : s.vm.findClass RX12 = some m.cls := findClass_of_methodNamed B.named
  have hlocks := B.notSynchronized
  have hD := pl_in hD0
  have hS : va_S (fun q => q ∈ L) s.heap s.heap [] := va_S.rf
  have hl := lv_entry ([.ref o0, .int p1]) (n := 2) (Nat.le_of_ble_eq_true rfl)
  rw [lg_entry_eq]
  generalize (lg_sl ([.ref o0, .int p1]) ++ List.replicate (2 - (lg_sl ([.ref o0, .int p1])).length) Slot.unset).toArray = ls at hl ⊢
  have hl : lv_has ls 2 [(0, .ref o0), (1, .int p1)] := hl
  have bp1 : ((-2147483648) ≤ p1.toInt ∧ p1.toInt ≤ 2147483647) := ⟨i32_lo _, i32_hi _⟩
  refine lv_aload_n hx hb dX12_isUsed_0 rfl (lv_at hl 0 rfl) ?_
  refine lv_iload_n hx hb dX12_isUsed_1 rfl (lv_at hl 1 rfl) ?_
  obtain ⟨a_1, a_2, a_3, v_4, a_5, v_6, v_7, v_8, v_9, v_10, v_11, v_12, v_13, v_14, v_15, a_16, a_17, a_18, a_19, a_20, a_21, a_22, a_23, v_24, v_25, v_26, v_27, v_28, a_29, v_30, a_31, a_32, v_33, v_34, a_35, v_36, a_37, a_38, v_39, v_40, a_41, a_42, a_43, v_44, a_45, a_46, a_47, a_48, a_49, a_50, a_51, a_52, a_53, v_54, v_55, a_56, hfo_57, fa_58⟩ := un12 (hG _ mo0) ko0
  obtain ⟨ma_1, ka_1⟩ := fa12_0 fa_58
  refine tk_ViP (As := [.int p1]) (rest := []) (n := 1) hx hb hml hown hU hN hZ (s_X12_isRule_k12 l (dC, dI) cI cL cZ cR cG cH Z kd L f hG o0 mo0 ko0 p1) wd_1289 wd_1290 wd_1291 wd_5 wd_1292 (by decide +kernel) ⟨Nat.le_of_ble_eq_true rfl, Nat.le_of_ble_eq_true rfl⟩ hK hP hD hS mo0 hfo_57 12 rfl rfl rfl hl.1 rfl (Nat.le_of_ble_eq_true rfl) dX12_isUsed_2 ⟨Nat.le_of_ble_eq_true rfl, Nat.le_of_ble_eq_true rfl⟩ (fun x_59 f_60 H locs hw hP hD hS => ?_)
  obtain ⟨rfl, bx_59, relx_59⟩ := hw
  refine lv_if_eq (tgt := 27) hx hb dX12_isUsed_5 (by decide) (fun c_62 => ?_) (fun c_62 => ?_)
  · skip
    rw [← Int32.toInt_inj, ti_0] at c_62
    refine lv_iconst (v := 0) hx hb dX12_isUsed_27 (by decide) ?_
    exact W.zret (v := 0) (ty := .boolean) hx hb hr rfl (fun t ht hW => ⟨⟨0, f, rfl, ⟨rfl, (by decide), (by (try rw [ti_0]) <;> omega)⟩, by rw [ht]; exact hP, va_K.moved hW.alike hK, pl_in hD⟩, hS.F ht⟩) hS.2.2 dX12_isUsed_28
  · skip
    rw [← Int32.toInt_inj, ti_0] at c_62
    refine lv_aload_n hx hb dX12_isUsed_8 rfl (lv_at hl 0 rfl) ?_
    refine tk_getP (D := (dC, dI)) (ci := 12) (v := .ref a_1) (C := RX12) (T := TX12) (N := 56) hx hb hU inlX12 hown hK hP mo0 hfo_57 rfl 0 (by decide) (hU _ wd_169) (fun _ h9 => h9) rfl dX12_isUsed_9 ?_
    refine lv_bipush (v := 40) hx hb dX12_isUsed_12 (by decide) ?_
    obtain ⟨g_64, hfo_63, hbg_64⟩ := un_575 (hG _ ma_1) ka_1
    refine tk_ildP hx hb hK hP 0 ma_1 hfo_63 rfl (vp_in_nI (n := 40) (by decide) (by decide)) dX12_isUsed_14 ?_
    refine lv_topi (fun x_65 ex_65 => ?_)
    have bx_65 : (0 ≤ x_65.toInt ∧ x_65.toInt ≤ 255) := by rw [ex_65]; exact hbg_64.2.2.2.2.2.2.1 _ (by decide) (by decide) (by decide)
    refine lv_iload_n hx hb dX12_isUsed_15 rfl (lv_at hl 1 rfl) ?_
    refine lv_ishr hx hb dX12_isUsed_16 ?_
    refine lv_topi (fun x_66 ex_66 => ?_)
    have bx_66 : ((-2147483648) ≤ x_66.toInt ∧ x_66.toInt ≤ 2147483647) := ⟨i32_lo _, i32_hi _⟩
    refine lv_iconst (v := 1) hx hb dX12_isUsed_17 (by decide) ?_
    refine lv_iand hx hb dX12_isUsed_18 ?_
    refine lv_topi (fun x_67 ex_67 => ?_)
    have bx_67 : (0 ≤ x_67.toInt ∧ x_67.toInt ≤ 1) := by rw [ex_67]; have h8 := an_C x_66 (m := 1) (by decide); rw [ti_1] at h8; exact h8
    refine lv_iconst (v := 1) hx hb dX12_isUsed_19 (by decide) ?_
    refine lv_icmp_ne (tgt := 27) hx hb dX12_isUsed_20 (by decide) (fun c_68 => ?_) (fun c_68 => ?_)
    · skip
      rw [← Int32.toInt_inj, ti_1] at c_68
      refine lv_iconst (v := 0) hx hb dX12_isUsed_27 (by decide) ?_
      exact W.zret (v := 0) (ty := .boolean) hx hb hr rfl (fun t ht hW => ⟨⟨0, f, rfl, ⟨rfl, (by decide), (by (try rw [ti_0]) <;> omega)⟩, by rw [ht]; exact hP, va_K.moved hW.alike hK, pl_in hD⟩, hS.F ht⟩) hS.2.2 dX12_isUsed_28
    · skip
      rw [← Int32.toInt_inj, ti_1] at c_68
      refine lv_iconst (v := 1) hx hb dX12_isUsed_23 (by decide) ?_
      refine lv_goto (tgt := 28) hx hb dX12_isUsed_24 (by decide) ?_
      exact W.zret (v := 1) (ty := .boolean) hx hb hr rfl (fun t ht hW => ⟨⟨1, f, rfl, ⟨rfl, (by decide), (by (try rw [ti_1]) <;> omega)⟩, by rw [ht]; exact hP, va_K.moved hW.alike hK, pl_in hD⟩, hS.F ht⟩) hS.2.2 dX12_isUsed_28
