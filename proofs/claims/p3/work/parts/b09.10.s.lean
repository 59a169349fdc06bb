set_option maxHeartbeats 8000000 in
set_option maxRecDepth 100000 in
theorem s_X12_op_k12 (l : Launch) (D : va_G) (cI cL cZ cR cG cH : ClassId) (Z : zT) (kd : Nat → Nat) (L : List Nat) (f : Nat → va_E) (hG : GI (okc cI cL cZ cR cG cH L kd) kd L f) (o0 : Nat) (mo0 : o0 ∈ L) (ko0 : kd o0 = 12) : mPI l D cI cL cZ cR cG cH Z yX12_op cX12_op 4 (some .int) 3 61 [.ref o0] L f (fun (r : Int32) (f9 : Nat → va_E) => GI (okc cI cL cZ cR cG cH L kd) kd L f9 ∧ ((-1) ≤ r.toInt ∧ r.toInt ≤ 3) ∧ (∀ b, kd b ≠ 12 → f9 b = f b) ∧ (∀ b, kd b = 12 → ∀ j, fldR (f9 b) j = fldR (f b) j) ∧ (∀ b, kd b = 12 → ∀ j, j ≠ 6 → fldI (f9 b) j = fldI (f b) j) ∧ (∀ (w6 z6 : Int32), fldI (f o0) 6 = some w6 → fldI (f9 o0) 6 = some z6 → w6.toInt ≤ z6.toInt ∧ (r.toInt = -1 ∨ (r.toInt ≤ 1 ∧ z6.toInt + 2 ≤ 600) ∨ z6.toInt + 3 ≤ 600))) := by
  obtain ⟨dC, dI⟩ := D
  refine Met.ofW (cc := cX12_op) (maxL := 4) (ret := (some .int)) (by decide) rfl ?_
  intro p e s m args below meth c s₁ B hml hv
  obtain ⟨rfl, hP, hK, hD0, hN, hZ⟩ := hv
  have hx := B.exec
  have hb := B.bytes
  have hr := B.returns
  have hU : ∀ w ∈ wsU, w.before _ s = true := fun w h => atoms_spec (ws := wU yX12_op cX12_op 4 (some .int)) B.pre w (List.mem_cons_of_mem _ h)
  have hown : s.vm.findClass RX12 = some m.cls := findClass_of_methodNamed B.named
  have hlocks := B.notSynchronized
  have hD := pl_in hD0
  have hS : va_S (fun q => q ∈ L) s.heap s.heap [] := va_S.rf
  have hl := lv_entry ([.ref o0]) (n := 4) (Nat.le_of_ble_eq_true rfl)
  rw [lg_entry_eq]
  generalize (lg_sl ([.ref o0]) ++ List.replicate (4 - (lg_sl ([.ref o0])).length) Slot.unset).toArray = ls at hl ⊢
  have hl : lv_has ls 4 [(0, .ref o0)] := hl
  have hfr0 : ∀ b, kd b ≠ 12 → f b = f b := fun _ _ => rfl
  have hrA12 : ∀ b, kd b = 12 → ∀ j, fldR (f b) j = fldR (f b) j := fun _ _ _ => rfl
  have hfA12 : ∀ b, kd b = 12 → ∀ j, j ≠ 6 → fldI (f b) j = fldI (f b) j := fun _ _ _ _ => rfl
  obtain ⟨a_1, a_2, a_3, v_4, a_5, v_6, v_7, v_8, v_9, v_10, v_11, v_12, v_13, v_14, v_15, a_16, a_17, a_18, a_19, a_20, a_21, a_22, a_23, v_24, v_25, v_26, v_27, v_28, a_29, v_30, a_31, a_32, v_33, v_34, a_35, v_36, a_37, a_38, v_39, v_40, a_41, a_42, a_43, v_44, a_45, a_46, a_47, a_48, a_49, a_50, a_51, a_52, a_53, v_54, v_55, a_56, hfo_57, fa_58⟩ := un12 (hG _ mo0) ko0
  have bv_6 : (0 ≤ v_6.toInt ∧ v_6.toInt ≤ 600) := fa12_5 fa_58
  have bv_7 : (0 ≤ v_7.toInt ∧ v_7.toInt ≤ 600) := fa12_6 fa_58
  refine lv_aload_n hx hb dX12_op_0 rfl (lv_at hl 0 rfl) ?_
  refine tk_ViP (As := []) (rest := []) (n := 0) hx hb hml hown hU hN hZ (s_X12_sign_k12 l (dC, dI) cI cL cZ cR cG cH Z kd L f hG o0 mo0 ko0) wd_573 wd_574 wd_575 wd_5 wd_576 (by decide +kernel) ⟨Nat.le_of_ble_eq_true rfl, Nat.le_of_ble_eq_true rfl⟩ hK hP hD hS mo0 hfo_57 12 rfl rfl rfl hl.1 rfl (Nat.le_of_ble_eq_true rfl) dX12_op_1 ⟨Nat.le_of_ble_eq_true rfl, Nat.le_of_ble_eq_true rfl⟩ (fun x_59 f_60 H locs hw hP hD hS => ?_)
  obtain ⟨hG, bx_59, hkc_61, hra_62, hfa_63, hpost_64⟩ := hw
  have hfr0 : ∀ b, kd b ≠ 12 → f_60 b = f b := fun b q12 => (hkc_61 b q12).trans (hfr0 b q12)
  have hrA12 : ∀ b, kd b = 12 → ∀ j, fldR (f_60 b) j = fldR (f b) j := fun b kb j => (hra_62 b kb j).trans (hrA12 b kb j)
  have hfA12 : ∀ b, kd b = 12 → ∀ j, j ≠ 6 → fldI (f_60 b) j = fldI (f b) j := fun b kb j n6 => (hfa_63 b kb j n6).trans (hfA12 b kb j n6)
  obtain ⟨v_66, hfo_67, fa_68⟩ := op12_6 hfo_57 (hG _ mo0) ko0 (hra_62 o0 ko0) (hfa_63 o0 ko0)
  have bv_66 : (0 ≤ v_66.toInt ∧ v_66.toInt ≤ 600) := fa12_6 fa_68
  have hqhpost_64 := hpost_64 v_7 v_66 (by rw [hfo_57]; rfl) (by rw [hfo_67]; rfl)
  refine lv_istore_n (lv' := [(1, .int x_59), (0, .ref o0)]) hx hb dX12_op_4 rfl hl (by decide) rfl (fun ls hl => ?_)
  refine lv_aload_n hx hb dX12_op_5 rfl (lv_at hl 1 rfl) ?_
  refine lv_aload_n hx hb dX12_op_6 rfl (lv_at hl 1 rfl) ?_
  refine tk_getP (D := (dC, dI)) (ci := 12) (v := .int v_66) (C := RX12) (T := TX12) (N := 56) hx hb hU inlX12 hown hK hP mo0 hfo_67 rfl 6 (by decide) (hU _ wd_566) (fun _ h9 => h9) rfl dX12_op_7 ?_
  refine lv_iconst (v := 1) hx hb dX12_op_10 (by decide) ?_
  refine lv_iadd hx hb dX12_op_11 ?_
  refine lv_topi (fun x_69 ex_69 => ?_)
  have hx_69 : x_69.toInt = v_66.toInt + 1 := by rw [ex_69, ad_I (by rw [ti_1]; omega) (by rw [ti_1]; omega), ti_1]
  have bx_69 : (1 ≤ x_69.toInt ∧ x_69.toInt ≤ 601) := by constructor <;> omega
  refine tk_ViP (As := [.int x_69]) (rest := []) (n := 1) hx hb hml hown hU hN hZ (s_X12_see_k12 l (dC, dI) cI cL cZ cR cG cH Z kd L f_60 hG o0 mo0 ko0 x_69 (by constructor <;> omega)) wd_581 wd_582 wd_583 wd_5 wd_584 (by decide +kernel) ⟨Nat.le_of_ble_eq_true rfl, Nat.le_of_ble_eq_true rfl⟩ hK hP hD hS mo0 hfo_67 12 rfl rfl rfl hl.1 rfl (Nat.le_of_ble_eq_true rfl) dX12_op_12 ⟨Nat.le_of_ble_eq_true rfl, Nat.le_of_ble_eq_true rfl⟩ (fun x_70 f_71 H locs hw hP hD hS => ?_)
  obtain ⟨rfl, bx_70, hxp_72⟩ := hw
  have hsex_70 := hxp_72 v_6 (by rw [hfo_67]; rfl)
  refine lv_istore_n (lv' := [(2, .int x_70), (1, .int x_59), (0, .ref o0)]) hx hb dX12_op_15 rfl hl (by decide) rfl (fun ls hl => ?_)
  refine lv_aload_n hx hb dX12_op_16 rfl (lv_at hl 2 rfl) ?_
  refine lv_aload_n hx hb dX12_op_17 rfl (lv_at hl 2 rfl) ?_
  refine tk_getP (D := (dC, dI)) (ci := 12) (v := .int v_66) (C := RX12) (T := TX12) (N := 56) hx hb hU inlX12 hown hK hP mo0 hfo_67 rfl 6 (by decide) (hU _ wd_566) (fun _ h9 => h9) rfl dX12_op_18 ?_
  refine lv_iconst (v := 2) hx hb dX12_op_21 (by decide) ?_
  refine lv_iadd hx hb dX12_op_22 ?_
  refine lv_topi (fun x_74 ex_74 => ?_)
  have hx_74 : x_74.toInt = v_66.toInt + 2 := by rw [ex_74, ad_I (by rw [ti_2]; omega) (by rw [ti_2]; omega), ti_2]
  have bx_74 : (2 ≤ x_74.toInt ∧ x_74.toInt ≤ 602) := by constructor <;> omega
  refine tk_ViP (As := [.int x_74]) (rest := []) (n := 1) hx hb hml hown hU hN hZ (s_X12_see_k12 l (dC, dI) cI cL cZ cR cG cH Z kd L f_60 hG o0 mo0 ko0 x_74 (by constructor <;> omega)) wd_581 wd_582 wd_583 wd_5 wd_584 (by decide +kernel) ⟨Nat.le_of_ble_eq_true rfl, Nat.le_of_ble_eq_true rfl⟩ hK hP hD hS mo0 hfo_67 12 rfl rfl rfl hl.1 rfl (Nat.le_of_ble_eq_true rfl) dX12_op_23 ⟨Nat.le_of_ble_eq_true rfl, Nat.le_of_ble_eq_true rfl⟩ (fun x_75 f_76 H locs hw hP hD hS => ?_)
  obtain ⟨rfl, bx_75, hxp_77⟩ := hw
  have hsex_75 := hxp_77 v_6 (by rw [hfo_67]; rfl)
  refine lv_istore_n (lv' := [(3, .int x_75), (2, .int x_70), (1, .int x_59), (0, .ref o0)]) hx hb dX12_op_26 rfl hl (by decide) rfl (fun ls hl => ?_)
  refine lv_iload_n hx hb dX12_op_27 rfl (lv_at hl 2 rfl) ?_
  refine lv_bipush (v := 61) hx hb dX12_op_28 (by decide) ?_
  refine lv_icmp_ne (tgt := 41) hx hb dX12_op_30 (by decide) (fun c_79 => ?_) (fun c_79 => ?_)
  · skip
    rw [← Int32.toInt_inj, ti_61] at c_79
    refine lv_iload_n hx hb dX12_op_41 rfl (lv_at hl 2 rfl) ?_
    refine lv_bipush (v := 60) hx hb dX12_op_42 (by decide) ?_
    refine lv_icmp_ne (tgt := 65) hx hb dX12_op_44 (by decide) (fun c_80 => ?_) (fun c_80 => ?_)
    · skip
      rw [← Int32.toInt_inj, ti_60] at c_80
      refine lv_iload_n hx hb dX12_op_65 rfl (lv_at hl 2 rfl) ?_
      refine lv_bipush (v := 47) hx hb dX12_op_66 (by decide) ?_
      refine lv_icmp_ne (tgt := 87) hx hb dX12_op_68 (by decide) (fun c_81 => ?_) (fun c_81 => ?_)
      · skip
        rw [← Int32.toInt_inj, ti_47] at c_81
        refine lv_iconst (v := (-1)) hx hb dX12_op_87 (by decide) ?_
        exact W.iret (v := (-1)) hx hb hr (fun t ht hW => ⟨⟨(-1), f_60, rfl, ⟨hG, (by decide), hfr0, hrA12, hfA12, (by intro w6 z6 e6 d6; rw [hfo_57] at e6; rw [hfo_67] at d6; obtain rfl := Option.some.inj e6; obtain rfl := Option.some.inj d6; (try rw [ti_m1]) <;> omega)⟩, by rw [ht]; exact hP, va_K.moved hW.alike hK, pl_in hD⟩, hS.F ht⟩) hS.2.2 dX12_op_88
      · skip
        rw [← Int32.toInt_inj, ti_47] at c_81
        refine lv_iload_n hx hb dX12_op_71 rfl (lv_at hl 1 rfl) ?_
        refine lv_bipush (v := 60) hx hb dX12_op_72 (by decide) ?_
        refine lv_icmp_ne (tgt := 87) hx hb dX12_op_74 (by decide) (fun c_82 => ?_) (fun c_82 => ?_)
        · skip
          rw [← Int32.toInt_inj, ti_60] at c_82
          refine lv_iconst (v := (-1)) hx hb dX12_op_87 (by decide) ?_
          exact W.iret (v := (-1)) hx hb hr (fun t ht hW => ⟨⟨(-1), f_60, rfl, ⟨hG, (by decide), hfr0, hrA12, hfA12, (by intro w6 z6 e6 d6; rw [hfo_57] at e6; rw [hfo_67] at d6; obtain rfl := Option.some.inj e6; obtain rfl := Option.some.inj d6; (try rw [ti_m1]) <;> omega)⟩, by rw [ht]; exact hP, va_K.moved hW.alike hK, pl_in hD⟩, hS.F ht⟩) hS.2.2 dX12_op_88
        · skip
          rw [← Int32.toInt_inj, ti_60] at c_82
          refine lv_iload_n hx hb dX12_op_77 rfl (lv_at hl 0 rfl) ?_
          refine lv_bipush (v := 61) hx hb dX12_op_78 (by decide) ?_
          refine lv_icmp_ne (tgt := 87) hx hb dX12_op_80 (by decide) (fun c_83 => ?_) (fun c_83 => ?_)
          · skip
            rw [← Int32.toInt_inj, ti_61] at c_83
            refine lv_iconst (v := (-1)) hx hb dX12_op_87 (by decide) ?_
            exact W.iret (v := (-1)) hx hb hr (fun t ht hW => ⟨⟨(-1), f_60, rfl, ⟨hG, (by decide), hfr0, hrA12, hfA12, (by intro w6 z6 e6 d6; rw [hfo_57] at e6; rw [hfo_67] at d6; obtain rfl := Option.some.inj e6; obtain rfl := Option.some.inj d6; (try rw [ti_m1]) <;> omega)⟩, by rw [ht]; exact hP, va_K.moved hW.alike hK, pl_in hD⟩, hS.F ht⟩) hS.2.2 dX12_op_88
          · skip
            rw [← Int32.toInt_inj, ti_61] at c_83
            refine lv_iconst (v := 3) hx hb dX12_op_83 (by decide) ?_
            refine lv_goto (tgt := 88) hx hb dX12_op_84 (by decide) ?_
            exact W.iret (v := 3) hx hb hr (fun t ht hW => ⟨⟨3, f_60, rfl, ⟨hG, (by decide), hfr0, hrA12, hfA12, (by intro w6 z6 e6 d6; rw [hfo_57] at e6; rw [hfo_67] at d6; obtain rfl := Option.some.inj e6; obtain rfl := Option.some.inj d6; (try rw [ti_3]) <;> omega)⟩, by rw [ht]; exact hP, va_K.moved hW.alike hK, pl_in hD⟩, hS.F ht⟩) hS.2.2 dX12_op_88
    · skip
      rw [← Int32.toInt_inj, ti_60] at c_80
      refine lv_iload_n hx hb dX12_op_47 rfl (lv_at hl 1 rfl) ?_
      refine lv_bipush (v := 61) hx hb dX12_op_48 (by decide) ?_
      refine lv_icmp_ne (tgt := 65) hx hb dX12_op_50 (by decide) (fun c_84 => ?_) (fun c_84 => ?_)
      · skip
        rw [← Int32.toInt_inj, ti_61] at c_84
        refine lv_iload_n hx hb dX12_op_65 rfl (lv_at hl 2 rfl) ?_
        refine lv_bipush (v := 47) hx hb dX12_op_66 (by decide) ?_
        refine lv_icmp_ne (tgt := 87) hx hb dX12_op_68 (by decide) (fun c_85 => ?_) (fun c_85 => ?_)
        · skip
          rw [← Int32.toInt_inj, ti_47] at c_85
          refine lv_iconst (v := (-1)) hx hb dX12_op_87 (by decide) ?_
          exact W.iret (v := (-1)) hx hb hr (fun t ht hW => ⟨⟨(-1), f_60, rfl, ⟨hG, (by decide), hfr0, hrA12, hfA12, (by intro w6 z6 e6 d6; rw [hfo_57] at e6; rw [hfo_67] at d6; obtain rfl := Option.some.inj e6; obtain rfl := Option.some.inj d6; (try rw [ti_m1]) <;> omega)⟩, by rw [ht]; exact hP, va_K.moved hW.alike hK, pl_in hD⟩, hS.F ht⟩) hS.2.2 dX12_op_88
        · skip
          rw [← Int32.toInt_inj, ti_47] at c_85
          exfalso
          omega
      · skip
        rw [← Int32.toInt_inj, ti_61] at c_84
        refine lv_iload_n hx hb dX12_op_53 rfl (lv_at hl 0 rfl) ?_
        refine lv_bipush (v := 62) hx hb dX12_op_54 (by decide) ?_
        refine lv_icmp_ne (tgt := 63) hx hb dX12_op_56 (by decide) (fun c_86 => ?_) (fun c_86 => ?_)
        · skip
          rw [← Int32.toInt_inj, ti_62] at c_86
          refine lv_iconst (v := 1) hx hb dX12_op_63 (by decide) ?_
          exact W.iret (v := 1) hx hb hr (fun t ht hW => ⟨⟨1, f_60, rfl, ⟨hG, (by decide), hfr0, hrA12, hfA12, (by intro w6 z6 e6 d6; rw [hfo_57] at e6; rw [hfo_67] at d6; obtain rfl := Option.some.inj e6; obtain rfl := Option.some.inj d6; (try rw [ti_1]) <;> omega)⟩, by rw [ht]; exact hP, va_K.moved hW.alike hK, pl_in hD⟩, hS.F ht⟩) hS.2.2 dX12_op_64
        · skip
          rw [← Int32.toInt_inj, ti_62] at c_86
          refine lv_iconst (v := 2) hx hb dX12_op_59 (by decide) ?_
          refine lv_goto (tgt := 64) hx hb dX12_op_60 (by decide) ?_
          exact W.iret (v := 2) hx hb hr (fun t ht hW => ⟨⟨2, f_60, rfl, ⟨hG, (by decide), hfr0, hrA12, hfA12, (by intro w6 z6 e6 d6; rw [hfo_57] at e6; rw [hfo_67] at d6; obtain rfl := Option.some.inj e6; obtain rfl := Option.some.inj d6; (try rw [ti_2]) <;> omega)⟩, by rw [ht]; exact hP, va_K.moved hW.alike hK, pl_in hD⟩, hS.F ht⟩) hS.2.2 dX12_op_64
  · skip
    rw [← Int32.toInt_inj, ti_61] at c_79
    refine lv_iload_n hx hb dX12_op_33 rfl (lv_at hl 1 rfl) ?_
    refine lv_bipush (v := 62) hx hb dX12_op_34 (by decide) ?_
    refine lv_icmp_ne (tgt := 41) hx hb dX12_op_36 (by decide) (fun c_87 => ?_) (fun c_87 => ?_)
    · skip
      rw [← Int32.toInt_inj, ti_62] at c_87
      refine lv_iload_n hx hb dX12_op_41 rfl (lv_at hl 2 rfl) ?_
      refine lv_bipush (v := 60) hx hb dX12_op_42 (by decide) ?_
      refine lv_icmp_ne (tgt := 65) hx hb dX12_op_44 (by decide) (fun c_88 => ?_) (fun c_88 => ?_)
      · skip
        rw [← Int32.toInt_inj, ti_60] at c_88
        refine lv_iload_n hx hb dX12_op_65 rfl (lv_at hl 2 rfl) ?_
        refine lv_bipush (v := 47) hx hb dX12_op_66 (by decide) ?_
        refine lv_icmp_ne (tgt := 87) hx hb dX12_op_68 (by decide) (fun c_89 => ?_) (fun c_89 => ?_)
        · skip
          rw [← Int32.toInt_inj, ti_47] at c_89
          refine lv_iconst (v := (-1)) hx hb dX12_op_87 (by decide) ?_
          exact W.iret (v := (-1)) hx hb hr (fun t ht hW => ⟨⟨(-1), f_60, rfl, ⟨hG, (by decide), hfr0, hrA12, hfA12, (by intro w6 z6 e6 d6; rw [hfo_57] at e6; rw [hfo_67] at d6; obtain rfl := Option.some.inj e6; obtain rfl := Option.some.inj d6; (try rw [ti_m1]) <;> omega)⟩, by rw [ht]; exact hP, va_K.moved hW.alike hK, pl_in hD⟩, hS.F ht⟩) hS.2.2 dX12_op_88
        · skip
          rw [← Int32.toInt_inj, ti_47] at c_89
          exfalso
          omega
      · skip
        rw [← Int32.toInt_inj, ti_60] at c_88
        exfalso
        omega
    · skip
      rw [← Int32.toInt_inj, ti_62] at c_87
      refine lv_iconst (v := 0) hx hb dX12_op_39 (by decide) ?_
      exact W.iret (v := 0) hx hb hr (fun t ht hW => ⟨⟨0, f_60, rfl, ⟨hG, (by decide), hfr0, hrA12, hfA12, (by intro w6 z6 e6 d6; rw [hfo_57] at e6; rw [hfo_67] at d6; obtain rfl := Option.some.inj e6; obtain rfl := Option.some.inj d6; (try rw [ti_0]) <;> omega)⟩, by rw [ht]; exact hP, va_K.moved hW.alike hK, pl_in hD⟩, hS.F ht⟩) hS.2.2 dX12_op_40
set_option maxHeartbeats 8000000 in
set_option maxRecDepth 100000 in
theorem s_X12_takesX_k12 (l : Launch) (D : va_G) (cI cL cZ cR cG cH : ClassId) (Z : zT) (kd : Nat → Nat) (L : List Nat) (f : Nat → va_E) (hG : GI (okc cI cL cZ cR cG cH L kd) kd L f) (o0 : Nat) (mo0 : o0 ∈ L) (ko0 : kd o0 = 12) : mPI l D cI cL cZ cR cG cH Z yX12_takesX cX12_takesX 3 (some .boolean) 3 61 [.ref o0] L f (fun (r : Int32) (f9 : Nat → va_E) => GI (okc cI cL cZ cR cG cH L kd) kd L f9 ∧ (0 ≤ r.toInt ∧ r.toInt ≤ 1) ∧ (∀ b, kd b ≠ 12 → f9 b = f b) ∧ (∀ b, kd b = 12 → ∀ j, fldR (f9 b) j = fldR (f b) j) ∧ (∀ b, kd b = 12 → ∀ j, j ≠ 6 → j ≠ 7 → j ≠ 8 → j ≠ 14 → fldI (f9 b) j = fldI (f b) j) ∧ (∀ (w6 z6 : Int32), fldI (f o0) 6 = some w6 → fldI (f9 o0) 6 = some z6 → w6.toInt ≤ z6.toInt)) := by
  obtain ⟨dC, dI⟩ := D
  refine Met.ofW (cc := cX12_takesX) (maxL := 3) (ret := (some .boolean)) (by decide) rfl ?_
  intro p e s m args below meth c s₁ B hml hv
  obtain ⟨rfl, hP, hK, hD0, hN, hZ⟩ := hv
  have hx := B.exec
  have hb := B.bytes
  have hr := B.returns
  have hU : ∀ w ∈ wsU, w.before _ s = true := fun w h => atoms_spec (ws := wU yX12_takesX cX12_takesX 3 (some .boolean)) B.pre w (List.mem_cons_of_mem _ h)
  have hown : s.vm.findClass RX12 = some m.cls := findClass_of_methodNamed B.named
  have hlocks := B.notSynchronized
  have hD := pl_in hD0
  have hS : va_S (fun q => q ∈ L) s.heap s.heap [] := va_S.rf
  have hl := lv_entry ([.ref o0]) (n := 3) (Nat.le_of_ble_eq_true rfl)
  rw [lg_entry_eq]
  generalize (lg_sl ([.ref o0]) ++ List.replicate (3 - (lg_sl ([.ref o0])).length) Slot.unset).toArray = ls at hl ⊢
  have hl : lv_has ls 3 [(0, .ref o0)] := hl
  have hfr0 : ∀ b, kd b ≠ 12 → f b = f b := fun _ _ => rfl
  have hrA12 : ∀ b, kd b = 12 → ∀ j, fldR (f b) j = fldR (f b) j := fun _ _ _ => rfl
  have hfA12 : ∀ b, kd b = 12 → ∀ j, j ≠ 6 → j ≠ 7 → j ≠ 8 → j ≠ 14 → fldI (f b) j = fldI (f b) j := fun _ _ _ _ _ _ _ => rfl
  obtain ⟨a_1, a_2, a_3, v_4, a_5, v_6, v_7, v_8, v_9, v_10, v_11, v_12, v_13, v_14, v_15, a_16, a_17, a_18, a_19, a_20, a_21, a_22, a_23, v_24, v_25, v_26, v_27, v_28, a_29, v_30, a_31, a_32, v_33, v_34, a_35, v_36, a_37, a_38, v_39, v_40, a_41, a_42, a_43, v_44, a_45, a_46, a_47, a_48, a_49, a_50, a_51, a_52, a_53, v_54, v_55, a_56, hfo_57, fa_58⟩ := un12 (hG _ mo0) ko0
  obtain ⟨ma_2, ka_2⟩ := fa12_1 fa_58
  have bv_7 : (0 ≤ v_7.toInt ∧ v_7.toInt ≤ 600) := fa12_6 fa_58
  refine lv_aload_n hx hb dX12_takesX_0 rfl (lv_at hl 0 rfl) ?_
  refine tk_ViP (As := []) (rest := []) (n := 0) hx hb hml hown hU hN hZ (s_X12_sign_k12 l (dC, dI) cI cL cZ cR cG cH Z kd L f hG o0 mo0 ko0) wd_573 wd_574 wd_575 wd_5 wd_576 (by decide +kernel) ⟨Nat.le_of_ble_eq_true rfl, Nat.le_of_ble_eq_true rfl⟩ hK hP hD hS mo0 hfo_57 12 rfl rfl rfl hl.1 rfl (Nat.le_of_ble_eq_true rfl) dX12_takesX_1 ⟨Nat.le_of_ble_eq_true rfl, Nat.le_of_ble_eq_true rfl⟩ (fun x_59 f_60 H locs hw hP hD hS => ?_)
  obtain ⟨hG, bx_59, hkc_61, hra_62, hfa_63, hpost_64⟩ := hw
  have hfr0 : ∀ b, kd b ≠ 12 → f_60 b = f b := fun b q12 => (hkc_61 b q12).trans (hfr0 b q12)
  have hrA12 : ∀ b, kd b = 12 → ∀ j, fldR (f_60 b) j = fldR (f b) j := fun b kb j => (hra_62 b kb j).trans (hrA12 b kb j)
  have hfA12 : ∀ b, kd b = 12 → ∀ j, j ≠ 6 → j ≠ 7 → j ≠ 8 → j ≠ 14 → fldI (f_60 b) j = fldI (f b) j := fun b kb j n6 n7 n8 n14 => (hfa_63 b kb j n6).trans (hfA12 b kb j n6 n7 n8 n14)
  obtain ⟨v_66, hfo_67, fa_68⟩ := op12_6 hfo_57 (hG _ mo0) ko0 (hra_62 o0 ko0) (hfa_63 o0 ko0)
  have bv_66 : (0 ≤ v_66.toInt ∧ v_66.toInt ≤ 600) := fa12_6 fa_68
  have hqhpost_64 := hpost_64 v_7 v_66 (by rw [hfo_57]; rfl) (by rw [hfo_67]; rfl)
  refine lv_istore_n (lv' := [(1, .int x_59), (0, .ref o0)]) hx hb dX12_takesX_4 rfl hl (by decide) rfl (fun ls hl => ?_)
  refine lv_iload_n hx hb dX12_takesX_5 rfl (lv_at hl 0 rfl) ?_
  refine lv_bipush (v := 63) hx hb dX12_takesX_6 (by decide) ?_
  refine lv_icmp_ne (tgt := 21) hx hb dX12_takesX_8 (by decide) (fun c_69 => ?_) (fun c_69 => ?_)
  · skip
    rw [← Int32.toInt_inj, ti_63] at c_69
    refine lv_iload_n hx hb dX12_takesX_21 rfl (lv_at hl 0 rfl) ?_
    refine lv_bipush (v := 48) hx hb dX12_takesX_22 (by decide) ?_
    refine lv_icmp_ne (tgt := 35) hx hb dX12_takesX_24 (by decide) (fun c_70 => ?_) (fun c_70 => ?_)
    · skip
      rw [← Int32.toInt_inj, ti_48] at c_70
      refine lv_iload_n hx hb dX12_takesX_35 rfl (lv_at hl 0 rfl) ?_
      refine lv_bipush (v := 65) hx hb dX12_takesX_36 (by decide) ?_
      refine lv_bipush (v := 70) hx hb dX12_takesX_38 (by decide) ?_
      refine tk_SiP (As := [.int x_59, .int 65, .int 70]) (rest := []) (n := 3) hx hb hml hown hU hN hZ (s_X12_isIn l (dC, dI) cI cL cZ cR cG cH Z kd L f_60 hG x_59 65 70) wd_227 wd_228 wd_5 wd_229 (by decide +kernel) ⟨Nat.le_of_ble_eq_true rfl, Nat.le_of_ble_eq_true rfl⟩ hK hP hD hS rfl hl.1 rfl (Nat.le_of_ble_eq_true rfl) dX12_takesX_40 ⟨Nat.le_of_ble_eq_true rfl, Nat.le_of_ble_eq_true rfl⟩ (fun x_71 f_72 H locs hw hP hD hS => ?_)
      obtain ⟨rfl, bx_71, relx_71⟩ := hw
      try rw [ti_65] at relx_71
      try rw [ti_70] at relx_71
      refine lv_if_eq (tgt := 79) hx hb dX12_takesX_43 (by decide) (fun c_74 => ?_) (fun c_74 => ?_)
      · skip
        rw [← Int32.toInt_inj, ti_0] at c_74
        refine lv_iload_n hx hb dX12_takesX_79 rfl (lv_at hl 0 rfl) ?_
        refine tk_SiP (As := [.int x_59]) (rest := []) (n := 1) hx hb hml hown hU hN hZ (s_X12_isSmall l (dC, dI) cI cL cZ cR cG cH Z kd L f_60 hG x_59) wd_589 wd_590 wd_5 wd_591 (by decide +kernel) ⟨Nat.le_of_ble_eq_true rfl, Nat.le_of_ble_eq_true rfl⟩ hK hP hD hS rfl hl.1 rfl (Nat.le_of_ble_eq_true rfl) dX12_takesX_80 ⟨Nat.le_of_ble_eq_true rfl, Nat.le_of_ble_eq_true rfl⟩ (fun x_75 f_76 H locs hw hP hD hS => ?_)
        obtain ⟨rfl, bx_75, relx_75⟩ := hw
        refine lv_if_eq (tgt := 119) hx hb dX12_takesX_83 (by decide) (fun c_78 => ?_) (fun c_78 => ?_)
        · skip
          rw [← Int32.toInt_inj, ti_0] at c_78
          refine lv_aload_n hx hb dX12_takesX_119 rfl (lv_at hl 1 rfl) ?_
          refine lv_iconst (v := 1) hx hb dX12_takesX_120 (by decide) ?_
          refine lv_aload_n hx hb dX12_takesX_121 rfl (lv_at hl 1 rfl) ?_
          refine tk_getP (D := (dC, dI)) (ci := 12) (v := .int v_66) (C := RX12) (T := TX12) (N := 56) hx hb hU inlX12 hown hK hP mo0 hfo_67 rfl 6 (by decide) (hU _ wd_566) (fun _ h9 => h9) rfl dX12_takesX_122 ?_
          refine tk_ViP (As := [.int 1, .int v_66]) (rest := []) (n := 2) hx hb hml hown hU hN hZ (s_X12_bad_k12 l (dC, dI) cI cL cZ cR cG cH Z kd L f_60 hG o0 mo0 ko0 1 v_66) wd_602 wd_603 wd_604 wd_5 wd_605 (by decide +kernel) ⟨Nat.le_of_ble_eq_true rfl, Nat.le_of_ble_eq_true rfl⟩ hK hP hD hS mo0 hfo_67 12 rfl rfl rfl hl.1 rfl (Nat.le_of_ble_eq_true rfl) dX12_takesX_125 ⟨Nat.le_of_ble_eq_true rfl, Nat.le_of_ble_eq_true rfl⟩ (fun x_79 f_80 H locs hw hP hD hS => ?_)
          obtain ⟨hG, bx_79, hkc_81, hra_82, hfa_83⟩ := hw
          have hfr0 : ∀ b, kd b ≠ 12 → f_80 b = f b := fun b q12 => (hkc_81 b q12).trans (hfr0 b q12)
          have hrA12 : ∀ b, kd b = 12 → ∀ j, fldR (f_80 b) j = fldR (f b) j := fun b kb j => (hra_82 b kb j).trans (hrA12 b kb j)
          have hfA12 : ∀ b, kd b = 12 → ∀ j, j ≠ 6 → j ≠ 7 → j ≠ 8 → j ≠ 14 → fldI (f_80 b) j = fldI (f b) j := fun b kb j n6 n7 n8 n14 => (hfa_83 b kb j n7 n8).trans (hfA12 b kb j n6 n7 n8 n14)
          obtain ⟨v_85, v_86, hfo_87, fa_88⟩ := op12_7_8 hfo_67 (hG _ mo0) ko0 (hra_82 o0 ko0) (hfa_83 o0 ko0)
          have bv_85 : ((-2147483648) ≤ v_85.toInt ∧ v_85.toInt ≤ 2147483647) := ⟨i32_lo _, i32_hi _⟩
          have bv_86 : ((-2147483648) ≤ v_86.toInt ∧ v_86.toInt ≤ 2147483647) := ⟨i32_lo _, i32_hi _⟩
          exact W.zret (v := x_79) (ty := .boolean) hx hb hr (zb_n (by constructor <;> omega)) (fun t ht hW => ⟨⟨x_79, f_80, rfl, ⟨hG, (by constructor <;> omega), hfr0, hrA12, hfA12, (by intro w6 z6 e6 d6; rw [hfo_57] at e6; rw [hfo_87] at d6; obtain rfl := Option.some.inj e6; obtain rfl := Option.some.inj d6; omega)⟩, by rw [ht]; exact hP, va_K.moved hW.alike hK, pl_in hD⟩, hS.F ht⟩) hS.2.2 dX12_takesX_128
        · skip
          rw [← Int32.toInt_inj, ti_0] at c_78
          refine lv_aload_n hx hb dX12_takesX_86 rfl (lv_at hl 1 rfl) ?_
          refine tk_getP (D := (dC, dI)) (ci := 12) (v := .ref a_2) (C := RX12) (T := TX12) (N := 56) hx hb hU inlX12 hown hK hP mo0 hfo_67 rfl 1 (by decide) (hU _ wd_170) (fun _ h9 => h9) rfl dX12_takesX_87 ?_
          refine lv_iload_n hx hb dX12_takesX_90 rfl (lv_at hl 0 rfl) ?_
          refine tk_SiP (As := [.ref a_2, .int x_59]) (rest := []) (n := 2) hx hb hml hown hU hN hZ (s_X12_letterIn_a576 l (dC, dI) cI cL cZ cR cG cH Z kd L f_60 hG a_2 ma_2 ka_2 x_59) wd_606 wd_607 wd_5 wd_608 (by decide +kernel) ⟨Nat.le_of_ble_eq_true rfl, Nat.le_of_ble_eq_true rfl⟩ hK hP hD hS rfl hl.1 rfl (Nat.le_of_ble_eq_true rfl) dX12_takesX_91 ⟨Nat.le_of_ble_eq_true rfl, Nat.le_of_ble_eq_true rfl⟩ (fun x_89 f_90 H locs hw hP hD hS => ?_)
          obtain ⟨rfl, bx_89, hxp_91⟩ := hw
          obtain ⟨g_94, hfo_93, hbg_94⟩ := un_576 (hG _ ma_2) ka_2
          have hlix_89 := hxp_91 g_94 hfo_93
          refine lv_istore_n (lv' := [(2, .int x_89), (1, .int x_59), (0, .ref o0)]) hx hb dX12_takesX_94 rfl hl (by decide) rfl (fun ls hl => ?_)
          refine lv_iload_n hx hb dX12_takesX_95 rfl (lv_at hl 0 rfl) ?_
          refine lv_if_ne (tgt := 109) hx hb dX12_takesX_96 (by decide) (fun c_95 => ?_) (fun c_95 => ?_)
          · skip
            rw [← Int32.toInt_inj, ti_0] at c_95
            refine lv_aload_n hx hb dX12_takesX_109 rfl (lv_at hl 2 rfl) ?_
            refine lv_iconst (v := 1) hx hb dX12_takesX_110 (by decide) ?_
            refine lv_iload_n hx hb dX12_takesX_111 rfl (lv_at hl 0 rfl) ?_
            refine lv_ishl hx hb dX12_takesX_112 ?_
            refine lv_topi (fun x_96 ex_96 => ?_)
            have bx_96 : (1 ≤ x_96.toInt ∧ x_96.toInt ≤ 256) := by rw [ex_96]; exact sh_8 (by constructor <;> omega)
            refine tk_putP (D := (dC, dI)) (ci := 12) (v := .int x_96) (ty := .int) (C := RX12) (T := TX12) (N := 56) hx hb hU inlX12 tyX12 tyX12_ok nmX12 hown hK hP hD hS mo0 hfo_67 rfl 14 (by decide) (hU _ wd_654) (fun _ h9 => h9) rfl (by decide +kernel) rfl rfl (Nat.le_of_ble_eq_true rfl) dX12_takesX_113 (fun H locs hP hD hS => ?_)
            have fa_97 := fu12_14 (y := x_96) fa_68
            obtain ⟨f_99, ef_99⟩ : ∃ y : Nat → va_E, y = va_up f_60 o0 (.inr (12, [.ref a_1, .ref a_2, .ref a_3, .int v_4, .ref a_5, .int v_6, .int v_66, .int v_8, .int v_9, .int v_10, .int v_11, .int v_12, .int v_13, .int v_14, .int x_96, .ref a_16, .ref a_17, .ref a_18, .ref a_19, .ref a_20, .ref a_21, .ref a_22, .ref a_23, .int v_24, .int v_25, .int v_26, .int v_27, .int v_28, .ref a_29, .int v_30, .ref a_31, .ref a_32, .int v_33, .int v_34, .ref a_35, .int v_36, .ref a_37, .ref a_38, .int v_39, .int v_40, .ref a_41, .ref a_42, .ref a_43, .int v_44, .ref a_45, .ref a_46, .ref a_47, .ref a_48, .ref a_49, .ref a_50, .ref a_51, .ref a_52, .ref a_53, .int v_54, .int v_55, .ref a_56])) := ⟨_, rfl⟩
            have hP : va_P (dC, dI) vwCl (va_pl L f_99) H := by rw [ef_99]; exact hP
            have hD : va_D (fun q => q ∈ L) (va_pl L f_99) := by rw [ef_99]; exact hD
            have hG : GI (okc cI cL cZ cR cG cH L kd) kd L f_99 := by rw [ef_99]; exact hG.set o0 (mk_12 ko0 (fo12 fa_97))
            have hfo_100 : f_99 a_2 = .inl (cI, 1560, .inl g_94) := by rw [ef_99, up_ne (kd_ne ko0 ka_2 (by decide))]; exact hfo_93
            have hfr0 : ∀ b, kd b ≠ 12 → f_99 b = f b := fun b q12 => (congrFun ef_99 b).trans ((up_ne (fun e9 => q12 (by rw [e9]; exact ko0))).trans (hfr0 b q12))
            have hrA12 : ∀ b, kd b = 12 → ∀ j, fldR (f_99 b) j = fldR (f b) j := fun b kb j => ((congrArg (fun x => fldR x j) (congrFun ef_99 b)).trans (fra_up (fun j => by rw [hfo_67]; exact fr_set (k := 14) rfl rfl) j b)).trans (hrA12 b kb j)
            have hfA12 : ∀ b, kd b = 12 → ∀ j, j ≠ 6 → j ≠ 7 → j ≠ 8 → j ≠ 14 → fldI (f_99 b) j = fldI (f b) j := fun b kb j n6 n7 n8 n14 => ((congrArg (fun x => fldI x j) (congrFun ef_99 b)).trans (fia_up (fun h9 => by rw [hfo_67]; exact fi_set (k := 14) rfl h9) n14 b)).trans (hfA12 b kb j n6 n7 n8 n14)
            have hfo_101 : f_99 o0 = .inr (12, [.ref a_1, .ref a_2, .ref a_3, .int v_4, .ref a_5, .int v_6, .int v_66, .int v_8, .int v_9, .int v_10, .int v_11, .int v_12, .int v_13, .int v_14, .int x_96, .ref a_16, .ref a_17, .ref a_18, .ref a_19, .ref a_20, .ref a_21, .ref a_22, .ref a_23, .int v_24, .int v_25, .int v_26, .int v_27, .int v_28, .ref a_29, .int v_30, .ref a_31, .ref a_32, .int v_33, .int v_34, .ref a_35, .int v_36, .ref a_37, .ref a_38, .int v_39, .int v_40, .ref a_41, .ref a_42, .ref a_43, .int v_44, .ref a_45, .ref a_46, .ref a_47, .ref a_48, .ref a_49, .ref a_50, .ref a_51, .ref a_52, .ref a_53, .int v_54, .int v_55, .ref a_56]) := by rw [ef_99]; exact up_self
            refine lv_goto (tgt := 129) hx hb dX12_takesX_116 (by decide) ?_
            have hclc_102 : (0 ≤ v_66.toInt ∧ v_66.toInt ≤ 599) := by constructor <;> omega
            refine lv_aload_n hx hb dX12_takesX_129 rfl (lv_at hl 2 rfl) ?_
            refine lv_dup hx hb dX12_takesX_130 rfl ?_
            refine tk_getP (D := (dC, dI)) (ci := 12) (v := .int v_66) (C := RX12) (T := TX12) (N := 56) hx hb hU inlX12 hown hK hP mo0 hfo_101 rfl 6 (by decide) (hU _ wd_566) (fun _ h9 => h9) rfl dX12_takesX_131 ?_
            refine lv_iconst (v := 1) hx hb dX12_takesX_134 (by decide) ?_
            refine lv_iadd hx hb dX12_takesX_135 ?_
            refine lv_topi (fun x_103 ex_103 => ?_)
            have hx_103 : x_103.toInt = v_66.toInt + 1 := by rw [ex_103, ad_I (by rw [ti_1]; omega) (by rw [ti_1]; omega), ti_1]
            have bx_103 : (1 ≤ x_103.toInt ∧ x_103.toInt ≤ 600) := by constructor <;> omega
            refine tk_putP (D := (dC, dI)) (ci := 12) (v := .int x_103) (ty := .int) (C := RX12) (T := TX12) (N := 56) hx hb hU inlX12 tyX12 tyX12_ok nmX12 hown hK hP hD hS mo0 hfo_101 rfl 6 (by decide) (hU _ wd_566) (fun _ h9 => h9) rfl (by decide +kernel) rfl rfl (Nat.le_of_ble_eq_true rfl) dX12_takesX_136 (fun H locs hP hD hS => ?_)
            have fa_104 := fu12_6 (y := x_103) fa_97 (by constructor <;> omega)
            obtain ⟨f_106, ef_106⟩ : ∃ y : Nat → va_E, y = va_up f_99 o0 (.inr (12, [.ref a_1, .ref a_2, .ref a_3, .int v_4, .ref a_5, .int v_6, .int x_103, .int v_8, .int v_9, .int v_10, .int v_11, .int v_12, .int v_13, .int v_14, .int x_96, .ref a_16, .ref a_17, .ref a_18, .ref a_19, .ref a_20, .ref a_21, .ref a_22, .ref a_23, .int v_24, .int v_25, .int v_26, .int v_27, .int v_28, .ref a_29, .int v_30, .ref a_31, .ref a_32, .int v_33, .int v_34, .ref a_35, .int v_36, .ref a_37, .ref a_38, .int v_39, .int v_40, .ref a_41, .ref a_42, .ref a_43, .int v_44, .ref a_45, .ref a_46, .ref a_47, .ref a_48, .ref a_49, .ref a_50, .ref a_51, .ref a_52, .ref a_53, .int v_54, .int v_55, .ref a_56])) := ⟨_, rfl⟩
            have hP : va_P (dC, dI) vwCl (va_pl L f_106) H := by rw [ef_106]; exact hP
            have hD : va_D (fun q => q ∈ L) (va_pl L f_106) := by rw [ef_106]; exact hD
            have hG : GI (okc cI cL cZ cR cG cH L kd) kd L f_106 := by rw [ef_106]; exact hG.set o0 (mk_12 ko0 (fo12 fa_104))
            have hfo_107 : f_106 a_2 = .inl (cI, 1560, .inl g_94) := by rw [ef_106, up_ne (kd_ne ko0 ka_2 (by decide))]; exact hfo_100
            have hfr0 : ∀ b, kd b ≠ 12 → f_106 b = f b := fun b q12 => (congrFun ef_106 b).trans ((up_ne (fun e9 => q12 (by rw [e9]; exact ko0))).trans (hfr0 b q12))
            have hrA12 : ∀ b, kd b = 12 → ∀ j, fldR (f_106 b) j = fldR (f b) j := fun b kb j => ((congrArg (fun x => fldR x j) (congrFun ef_106 b)).trans (fra_up (fun j => by rw [hfo_101]; exact fr_set (k := 6) rfl rfl) j b)).trans (hrA12 b kb j)
            have hfA12 : ∀ b, kd b = 12 → ∀ j, j ≠ 6 → j ≠ 7 → j ≠ 8 → j ≠ 14 → fldI (f_106 b) j = fldI (f b) j := fun b kb j n6 n7 n8 n14 => ((congrArg (fun x => fldI x j) (congrFun ef_106 b)).trans (fia_up (fun h9 => by rw [hfo_101]; exact fi_set (k := 6) rfl h9) n6 b)).trans (hfA12 b kb j n6 n7 n8 n14)
            have hfo_108 : f_106 o0 = .inr (12, [.ref a_1, .ref a_2, .ref a_3, .int v_4, .ref a_5, .int v_6, .int x_103, .int v_8, .int v_9, .int v_10, .int v_11, .int v_12, .int v_13, .int v_14, .int x_96, .ref a_16, .ref a_17, .ref a_18, .ref a_19, .ref a_20, .ref a_21, .ref a_22, .ref a_23, .int v_24, .int v_25, .int v_26, .int v_27, .int v_28, .ref a_29, .int v_30, .ref a_31, .ref a_32, .int v_33, .int v_34, .ref a_35, .int v_36, .ref a_37, .ref a_38, .int v_39, .int v_40, .ref a_41, .ref a_42, .ref a_43, .int v_44, .ref a_45, .ref a_46, .ref a_47, .ref a_48, .ref a_49, .ref a_50, .ref a_51, .ref a_52, .ref a_53, .int v_54, .int v_55, .ref a_56]) := by rw [ef_106]; exact up_self
            refine lv_iconst (v := 1) hx hb dX12_takesX_139 (by decide) ?_
            exact W.zret (v := 1) (ty := .boolean) hx hb hr rfl (fun t ht hW => ⟨⟨1, f_106, rfl, ⟨hG, (by decide), hfr0, hrA12, hfA12, (by intro w6 z6 e6 d6; rw [hfo_57] at e6; rw [hfo_108] at d6; obtain rfl := Option.some.inj e6; obtain rfl := Option.some.inj d6; (try rw [ti_1]) <;> omega)⟩, by rw [ht]; exact hP, va_K.moved hW.alike hK, pl_in hD⟩, hS.F ht⟩) hS.2.2 dX12_takesX_140
          · skip
            rw [← Int32.toInt_inj, ti_0] at c_95
            refine lv_aload_n hx hb dX12_takesX_99 rfl (lv_at hl 2 rfl) ?_
            refine lv_iconst (v := 2) hx hb dX12_takesX_100 (by decide) ?_
            refine lv_aload_n hx hb dX12_takesX_101 rfl (lv_at hl 2 rfl) ?_
            refine tk_getP (D := (dC, dI)) (ci := 12) (v := .int v_66) (C := RX12) (T := TX12) (N := 56) hx hb hU inlX12 hown hK hP mo0 hfo_67 rfl 6 (by decide) (hU _ wd_566) (fun _ h9 => h9) rfl dX12_takesX_102 ?_
            refine tk_ViP (As := [.int 2, .int v_66]) (rest := []) (n := 2) hx hb hml hown hU hN hZ (s_X12_bad_k12 l (dC, dI) cI cL cZ cR cG cH Z kd L f_60 hG o0 mo0 ko0 2 v_66) wd_602 wd_603 wd_604 wd_5 wd_605 (by decide +kernel) ⟨Nat.le_of_ble_eq_true rfl, Nat.le_of_ble_eq_true rfl⟩ hK hP hD hS mo0 hfo_67 12 rfl rfl rfl hl.1 rfl (Nat.le_of_ble_eq_true rfl) dX12_takesX_105 ⟨Nat.le_of_ble_eq_true rfl, Nat.le_of_ble_eq_true rfl⟩ (fun x_109 f_110 H locs hw hP hD hS => ?_)
            obtain ⟨hG, bx_109, hkc_111, hra_112, hfa_113⟩ := hw
            have hfo_115 : f_110 a_2 = .inl (cI, 1560, .inl g_94) := by rw [hkc_111 a_2 (by rw [ka_2]; decide)]; exact hfo_93
            have hfr0 : ∀ b, kd b ≠ 12 → f_110 b = f b := fun b q12 => (hkc_111 b q12).trans (hfr0 b q12)
            have hrA12 : ∀ b, kd b = 12 → ∀ j, fldR (f_110 b) j = fldR (f b) j := fun b kb j => (hra_112 b kb j).trans (hrA12 b kb j)
            have hfA12 : ∀ b, kd b = 12 → ∀ j, j ≠ 6 → j ≠ 7 → j ≠ 8 → j ≠ 14 → fldI (f_110 b) j = fldI (f b) j := fun b kb j n6 n7 n8 n14 => (hfa_113 b kb j n7 n8).trans (hfA12 b kb j n6 n7 n8 n14)
            obtain ⟨v_116, v_117, hfo_118, fa_119⟩ := op12_7_8 hfo_67 (hG _ mo0) ko0 (hra_112 o0 ko0) (hfa_113 o0 ko0)
            have bv_116 : ((-2147483648) ≤ v_116.toInt ∧ v_116.toInt ≤ 2147483647) := ⟨i32_lo _, i32_hi _⟩
            have bv_117 : ((-2147483648) ≤ v_117.toInt ∧ v_117.toInt ≤ 2147483647) := ⟨i32_lo _, i32_hi _⟩
            exact W.zret (v := x_109) (ty := .boolean) hx hb hr (zb_n (by constructor <;> omega)) (fun t ht hW => ⟨⟨x_109, f_110, rfl, ⟨hG, (by constructor <;> omega), hfr0, hrA12, hfA12, (by intro w6 z6 e6 d6; rw [hfo_57] at e6; rw [hfo_118] at d6; obtain rfl := Option.some.inj e6; obtain rfl := Option.some.inj d6; omega)⟩, by rw [ht]; exact hP, va_K.moved hW.alike hK, pl_in hD⟩, hS.F ht⟩) hS.2.2 dX12_takesX_108
      · skip
        rw [← Int32.toInt_inj, ti_0] at c_74
        refine lv_aload_n hx hb dX12_takesX_46 rfl (lv_at hl 1 rfl) ?_
        refine lv_aload_n hx hb dX12_takesX_47 rfl (lv_at hl 1 rfl) ?_
        refine tk_getP (D := (dC, dI)) (ci := 12) (v := .ref a_2) (C := RX12) (T := TX12) (N := 56) hx hb hU inlX12 hown hK hP mo0 hfo_67 rfl 1 (by decide) (hU _ wd_170) (fun _ h9 => h9) rfl dX12_takesX_48 ?_
        refine lv_bipush (v := 10) hx hb dX12_takesX_51 (by decide) ?_
        refine lv_iload_n hx hb dX12_takesX_53 rfl (lv_at hl 0 rfl) ?_
        refine lv_iadd hx hb dX12_takesX_54 ?_
        refine lv_topi (fun x_120 ex_120 => ?_)
        have hx_120 : x_120.toInt = 10 + x_59.toInt := by rw [ex_120, ad_I (by rw [ti_10]; omega) (by rw [ti_10]; omega), ti_10]
        have bx_120 : (75 ≤ x_120.toInt ∧ x_120.toInt ≤ 80) := by constructor <;> omega
        refine lv_bipush (v := 65) hx hb dX12_takesX_55 (by decide) ?_
        refine lv_isub hx hb dX12_takesX_57 ?_
        refine lv_topi (fun x_121 ex_121 => ?_)
        have hx_121 : x_121.toInt = x_120.toInt - 65 := by rw [ex_121, sb_I (by rw [ti_65]; omega) (by rw [ti_65]; omega), ti_65]
        have bx_121 : (10 ≤ x_121.toInt ∧ x_121.toInt ≤ 15) := by constructor <;> omega
        obtain ⟨g_123, hfo_122, hbg_123⟩ := un_576 (hG _ ma_2) ka_2
        refine tk_ildP hx hb hK hP 0 ma_2 hfo_122 rfl (vp_in_iff.mpr (by constructor <;> omega)) dX12_takesX_58 ?_
        refine lv_topi (fun x_124 ex_124 => ?_)
        have bx_124 : ((-2147483648) ≤ x_124.toInt ∧ x_124.toInt ≤ 2147483647) := ⟨i32_lo _, i32_hi _⟩
        refine tk_putP (D := (dC, dI)) (ci := 12) (v := .int x_124) (ty := .int) (C := RX12) (T := TX12) (N := 56) hx hb hU inlX12 tyX12 tyX12_ok nmX12 hown hK hP hD hS mo0 hfo_67 rfl 14 (by decide) (hU _ wd_654) (fun _ h9 => h9) rfl (by decide +kernel) rfl rfl (Nat.le_of_ble_eq_true rfl) dX12_takesX_59 (fun H locs hP hD hS => ?_)
        have fa_125 := fu12_14 (y := x_124) fa_68
        obtain ⟨f_127, ef_127⟩ : ∃ y : Nat → va_E, y = va_up f_60 o0 (.inr (12, [.ref a_1, .ref a_2, .ref a_3, .int v_4, .ref a_5, .int v_6, .int v_66, .int v_8, .int v_9, .int v_10, .int v_11, .int v_12, .int v_13, .int v_14, .int x_124, .ref a_16, .ref a_17, .ref a_18, .ref a_19, .ref a_20, .ref a_21, .ref a_22, .ref a_23, .int v_24, .int v_25, .int v_26, .int v_27, .int v_28, .ref a_29, .int v_30, .ref a_31, .ref a_32, .int v_33, .int v_34, .ref a_35, .int v_36, .ref a_37, .ref a_38, .int v_39, .int v_40, .ref a_41, .ref a_42, .ref a_43, .int v_44, .ref a_45, .ref a_46, .ref a_47, .ref a_48, .ref a_49, .ref a_50, .ref a_51, .ref a_52, .ref a_53, .int v_54, .int v_55, .ref a_56])) := ⟨_, rfl⟩
        have hP : va_P (dC, dI) vwCl (va_pl L f_127) H := by rw [ef_127]; exact hP
        have hD : va_D (fun q => q ∈ L) (va_pl L f_127) := by rw [ef_127]; exact hD
        have hG : GI (okc cI cL cZ cR cG cH L kd) kd L f_127 := by rw [ef_127]; exact hG.set o0 (mk_12 ko0 (fo12 fa_125))
        have hfo_128 : f_127 a_2 = .inl (cI, 1560, .inl g_123) := by rw [ef_127, up_ne (kd_ne ko0 ka_2 (by decide))]; exact hfo_122
        have hfr0 : ∀ b, kd b ≠ 12 → f_127 b = f b := fun b q12 => (congrFun ef_127 b).trans ((up_ne (fun e9 => q12 (by rw [e9]; exact ko0))).trans (hfr0 b q12))
        have hrA12 : ∀ b, kd b = 12 → ∀ j, fldR (f_127 b) j = fldR (f b) j := fun b kb j => ((congrArg (fun x => fldR x j) (congrFun ef_127 b)).trans (fra_up (fun j => by rw [hfo_67]; exact fr_set (k := 14) rfl rfl) j b)).trans (hrA12 b kb j)
        have hfA12 : ∀ b, kd b = 12 → ∀ j, j ≠ 6 → j ≠ 7 → j ≠ 8 → j ≠ 14 → fldI (f_127 b) j = fldI (f b) j := fun b kb j n6 n7 n8 n14 => ((congrArg (fun x => fldI x j) (congrFun ef_127 b)).trans (fia_up (fun h9 => by rw [hfo_67]; exact fi_set (k := 14) rfl h9) n14 b)).trans (hfA12 b kb j n6 n7 n8 n14)
        have hfo_129 : f_127 o0 = .inr (12, [.ref a_1, .ref a_2, .ref a_3, .int v_4, .ref a_5, .int v_6, .int v_66, .int v_8, .int v_9, .int v_10, .int v_11, .int v_12, .int v_13, .int v_14, .int x_124, .ref a_16, .ref a_17, .ref a_18, .ref a_19, .ref a_20, .ref a_21, .ref a_22, .ref a_23, .int v_24, .int v_25, .int v_26, .int v_27, .int v_28, .ref a_29, .int v_30, .ref a_31, .ref a_32, .int v_33, .int v_34, .ref a_35, .int v_36, .ref a_37, .ref a_38, .int v_39, .int v_40, .ref a_41, .ref a_42, .ref a_43, .int v_44, .ref a_45, .ref a_46, .ref a_47, .ref a_48, .ref a_49, .ref a_50, .ref a_51, .ref a_52, .ref a_53, .int v_54, .int v_55, .ref a_56]) := by rw [ef_127]; exact up_self
        refine lv_aload_n hx hb dX12_takesX_62 rfl (lv_at hl 1 rfl) ?_
        refine tk_getP (D := (dC, dI)) (ci := 12) (v := .int x_124) (C := RX12) (T := TX12) (N := 56) hx hb hU inlX12 hown hK hP mo0 hfo_129 rfl 14 (by decide) (hU _ wd_654) (fun _ h9 => h9) rfl dX12_takesX_63 ?_
        refine lv_if_ne (tgt := 129) hx hb dX12_takesX_66 (by decide) (fun c_130 => ?_) (fun c_130 => ?_)
        · skip
          rw [← Int32.toInt_inj, ti_0] at c_130
          have hclc_131 : (0 ≤ v_66.toInt ∧ v_66.toInt ≤ 599) := by constructor <;> omega
          refine lv_aload_n hx hb dX12_takesX_129 rfl (lv_at hl 1 rfl) ?_
          refine lv_dup hx hb dX12_takesX_130 rfl ?_
          refine tk_getP (D := (dC, dI)) (ci := 12) (v := .int v_66) (C := RX12) (T := TX12) (N := 56) hx hb hU inlX12 hown hK hP mo0 hfo_129 rfl 6 (by decide) (hU _ wd_566) (fun _ h9 => h9) rfl dX12_takesX_131 ?_
          refine lv_iconst (v := 1) hx hb dX12_takesX_134 (by decide) ?_
          refine lv_iadd hx hb dX12_takesX_135 ?_
          refine lv_topi (fun x_132 ex_132 => ?_)
          have hx_132 : x_132.toInt = v_66.toInt + 1 := by rw [ex_132, ad_I (by rw [ti_1]; omega) (by rw [ti_1]; omega), ti_1]
          have bx_132 : (1 ≤ x_132.toInt ∧ x_132.toInt ≤ 600) := by constructor <;> omega
          refine tk_putP (D := (dC, dI)) (ci := 12) (v := .int x_132) (ty := .int) (C := RX12) (T := TX12) (N := 56) hx hb hU inlX12 tyX12 tyX12_ok nmX12 hown hK hP hD hS mo0 hfo_129 rfl 6 (by decide) (hU _ wd_566) (fun _ h9 => h9) rfl (by decide +kernel) rfl rfl (Nat.le_of_ble_eq_true rfl) dX12_takesX_136 (fun H locs hP hD hS => ?_)
          have fa_133 := fu12_6 (y := x_132) fa_125 (by constructor <;> omega)
          obtain ⟨f_135, ef_135⟩ : ∃ y : Nat → va_E, y = va_up f_127 o0 (.inr (12, [.ref a_1, .ref a_2, .ref a_3, .int v_4, .ref a_5, .int v_6, .int x_132, .int v_8, .int v_9, .int v_10, .int v_11, .int v_12, .int v_13, .int v_14, .int x_124, .ref a_16, .ref a_17, .ref a_18, .ref a_19, .ref a_20, .ref a_21, .ref a_22, .ref a_23, .int v_24, .int v_25, .int v_26, .int v_27, .int v_28, .ref a_29, .int v_30, .ref a_31, .ref a_32, .int v_33, .int v_34, .ref a_35, .int v_36, .ref a_37, .ref a_38, .int v_39, .int v_40, .ref a_41, .ref a_42, .ref a_43, .int v_44, .ref a_45, .ref a_46, .ref a_47, .ref a_48, .ref a_49, .ref a_50, .ref a_51, .ref a_52, .ref a_53, .int v_54, .int v_55, .ref a_56])) := ⟨_, rfl⟩
          have hP : va_P (dC, dI) vwCl (va_pl L f_135) H := by rw [ef_135]; exact hP
          have hD : va_D (fun q => q ∈ L) (va_pl L f_135) := by rw [ef_135]; exact hD
          have hG : GI (okc cI cL cZ cR cG cH L kd) kd L f_135 := by rw [ef_135]; exact hG.set o0 (mk_12 ko0 (fo12 fa_133))
          have hfo_136 : f_135 a_2 = .inl (cI, 1560, .inl g_123) := by rw [ef_135, up_ne (kd_ne ko0 ka_2 (by decide))]; exact hfo_128
          have hfr0 : ∀ b, kd b ≠ 12 → f_135 b = f b := fun b q12 => (congrFun ef_135 b).trans ((up_ne (fun e9 => q12 (by rw [e9]; exact ko0))).trans (hfr0 b q12))
          have hrA12 : ∀ b, kd b = 12 → ∀ j, fldR (f_135 b) j = fldR (f b) j := fun b kb j => ((congrArg (fun x => fldR x j) (congrFun ef_135 b)).trans (fra_up (fun j => by rw [hfo_129]; exact fr_set (k := 6) rfl rfl) j b)).trans (hrA12 b kb j)
          have hfA12 : ∀ b, kd b = 12 → ∀ j, j ≠ 6 → j ≠ 7 → j ≠ 8 → j ≠ 14 → fldI (f_135 b) j = fldI (f b) j := fun b kb j n6 n7 n8 n14 => ((congrArg (fun x => fldI x j) (congrFun ef_135 b)).trans (fia_up (fun h9 => by rw [hfo_129]; exact fi_set (k := 6) rfl h9) n6 b)).trans (hfA12 b kb j n6 n7 n8 n14)
          have hfo_137 : f_135 o0 = .inr (12, [.ref a_1, .ref a_2, .ref a_3, .int v_4, .ref a_5, .int v_6, .int x_132, .int v_8, .int v_9, .int v_10, .int v_11, .int v_12, .int v_13, .int v_14, .int x_124, .ref a_16, .ref a_17, .ref a_18, .ref a_19, .ref a_20, .ref a_21, .ref a_22, .ref a_23, .int v_24, .int v_25, .int v_26, .int v_27, .int v_28, .ref a_29, .int v_30, .ref a_31, .ref a_32, .int v_33, .int v_34, .ref a_35, .int v_36, .ref a_37, .ref a_38, .int v_39, .int v_40, .ref a_41, .ref a_42, .ref a_43, .int v_44, .ref a_45, .ref a_46, .ref a_47, .ref a_48, .ref a_49, .ref a_50, .ref a_51, .ref a_52, .ref a_53, .int v_54, .int v_55, .ref a_56]) := by rw [ef_135]; exact up_self
          refine lv_iconst (v := 1) hx hb dX12_takesX_139 (by decide) ?_
          exact W.zret (v := 1) (ty := .boolean) hx hb hr rfl (fun t ht hW => ⟨⟨1, f_135, rfl, ⟨hG, (by decide), hfr0, hrA12, hfA12, (by intro w6 z6 e6 d6; rw [hfo_57] at e6; rw [hfo_137] at d6; obtain rfl := Option.some.inj e6; obtain rfl := Option.some.inj d6; (try rw [ti_1]) <;> omega)⟩, by rw [ht]; exact hP, va_K.moved hW.alike hK, pl_in hD⟩, hS.F ht⟩) hS.2.2 dX12_takesX_140
        · skip
          rw [← Int32.toInt_inj, ti_0] at c_130
          refine lv_aload_n hx hb dX12_takesX_69 rfl (lv_at hl 1 rfl) ?_
          refine lv_iconst (v := 2) hx hb dX12_takesX_70 (by decide) ?_
          refine lv_aload_n hx hb dX12_takesX_71 rfl (lv_at hl 1 rfl) ?_
          refine tk_getP (D := (dC, dI)) (ci := 12) (v := .int v_66) (C := RX12) (T := TX12) (N := 56) hx hb hU inlX12 hown hK hP mo0 hfo_129 rfl 6 (by decide) (hU _ wd_566) (fun _ h9 => h9) rfl dX12_takesX_72 ?_
          refine tk_ViP (As := [.int 2, .int v_66]) (rest := []) (n := 2) hx hb hml hown hU hN hZ (s_X12_bad_k12 l (dC, dI) cI cL cZ cR cG cH Z kd L f_127 hG o0 mo0 ko0 2 v_66) wd_602 wd_603 wd_604 wd_5 wd_605 (by decide +kernel) ⟨Nat.le_of_ble_eq_true rfl, Nat.le_of_ble_eq_true rfl⟩ hK hP hD hS mo0 hfo_129 12 rfl rfl rfl hl.1 rfl (Nat.le_of_ble_eq_true rfl) dX12_takesX_75 ⟨Nat.le_of_ble_eq_true rfl, Nat.le_of_ble_eq_true rfl⟩ (fun x_138 f_139 H locs hw hP hD hS => ?_)
          obtain ⟨hG, bx_138, hkc_140, hra_141, hfa_142⟩ := hw
          have hfo_144 : f_139 a_2 = .inl (cI, 1560, .inl g_123) := by rw [hkc_140 a_2 (by rw [ka_2]; decide)]; exact hfo_128
          have hfr0 : ∀ b, kd b ≠ 12 → f_139 b = f b := fun b q12 => (hkc_140 b q12).trans (hfr0 b q12)
          have hrA12 : ∀ b, kd b = 12 → ∀ j, fldR (f_139 b) j = fldR (f b) j := fun b kb j => (hra_141 b kb j).trans (hrA12 b kb j)
          have hfA12 : ∀ b, kd b = 12 → ∀ j, j ≠ 6 → j ≠ 7 → j ≠ 8 → j ≠ 14 → fldI (f_139 b) j = fldI (f b) j := fun b kb j n6 n7 n8 n14 => (hfa_142 b kb j n7 n8).trans (hfA12 b kb j n6 n7 n8 n14)
          obtain ⟨v_145, v_146, hfo_147, fa_148⟩ := op12_7_8 hfo_129 (hG _ mo0) ko0 (hra_141 o0 ko0) (hfa_142 o0 ko0)
          have bv_145 : ((-2147483648) ≤ v_145.toInt ∧ v_145.toInt ≤ 2147483647) := ⟨i32_lo _, i32_hi _⟩
          have bv_146 : ((-2147483648) ≤ v_146.toInt ∧ v_146.toInt ≤ 2147483647) := ⟨i32_lo _, i32_hi _⟩
          exact W.zret (v := x_138) (ty := .boolean) hx hb hr (zb_n (by constructor <;> omega)) (fun t ht hW => ⟨⟨x_138, f_139, rfl, ⟨hG, (by constructor <;> omega), hfr0, hrA12, hfA12, (by intro w6 z6 e6 d6; rw [hfo_57] at e6; rw [hfo_147] at d6; obtain rfl := Option.some.inj e6; obtain rfl := Option.some.inj d6; omega)⟩, by rw [ht]; exact hP, va_K.moved hW.alike hK, pl_in hD⟩, hS.F ht⟩) hS.2.2 dX12_takesX_78
    · skip
      rw [← Int32.toInt_inj, ti_48] at c_70
      refine lv_aload_n hx hb dX12_takesX_27 rfl (lv_at hl 1 rfl) ?_
      refine lv_iconst (v := 1) hx hb dX12_takesX_28 (by decide) ?_
      refine tk_putP (D := (dC, dI)) (ci := 12) (v := .int 1) (ty := .int) (C := RX12) (T := TX12) (N := 56) hx hb hU inlX12 tyX12 tyX12_ok nmX12 hown hK hP hD hS mo0 hfo_67 rfl 14 (by decide) (hU _ wd_654) (fun _ h9 => h9) rfl (by decide +kernel) rfl rfl (Nat.le_of_ble_eq_true rfl) dX12_takesX_29 (fun H locs hP hD hS => ?_)
      have fa_149 := fu12_14 (y := 1) fa_68
      obtain ⟨f_151, ef_151⟩ : ∃ y : Nat → va_E, y = va_up f_60 o0 (.inr (12, [.ref a_1, .ref a_2, .ref a_3, .int v_4, .ref a_5, .int v_6, .int v_66, .int v_8, .int v_9, .int v_10, .int v_11, .int v_12, .int v_13, .int v_14, .int 1, .ref a_16, .ref a_17, .ref a_18, .ref a_19, .ref a_20, .ref a_21, .ref a_22, .ref a_23, .int v_24, .int v_25, .int v_26, .int v_27, .int v_28, .ref a_29, .int v_30, .ref a_31, .ref a_32, .int v_33, .int v_34, .ref a_35, .int v_36, .ref a_37, .ref a_38, .int v_39, .int v_40, .ref a_41, .ref a_42, .ref a_43, .int v_44, .ref a_45, .ref a_46, .ref a_47, .ref a_48, .ref a_49, .ref a_50, .ref a_51, .ref a_52, .ref a_53, .int v_54, .int v_55, .ref a_56])) := ⟨_, rfl⟩
      have hP : va_P (dC, dI) vwCl (va_pl L f_151) H := by rw [ef_151]; exact hP
      have hD : va_D (fun q => q ∈ L) (va_pl L f_151) := by rw [ef_151]; exact hD
      have hG : GI (okc cI cL cZ cR cG cH L kd) kd L f_151 := by rw [ef_151]; exact hG.set o0 (mk_12 ko0 (fo12 fa_149))
      have hfr0 : ∀ b, kd b ≠ 12 → f_151 b = f b := fun b q12 => (congrFun ef_151 b).trans ((up_ne (fun e9 => q12 (by rw [e9]; exact ko0))).trans (hfr0 b q12))
      have hrA12 : ∀ b, kd b = 12 → ∀ j, fldR (f_151 b) j = fldR (f b) j := fun b kb j => ((congrArg (fun x => fldR x j) (congrFun ef_151 b)).trans (fra_up (fun j => by rw [hfo_67]; exact fr_set (k := 14) rfl rfl) j b)).trans (hrA12 b kb j)
      have hfA12 : ∀ b, kd b = 12 → ∀ j, j ≠ 6 → j ≠ 7 → j ≠ 8 → j ≠ 14 → fldI (f_151 b) j = fldI (f b) j := fun b kb j n6 n7 n8 n14 => ((congrArg (fun x => fldI x j) (congrFun ef_151 b)).trans (fia_up (fun h9 => by rw [hfo_67]; exact fi_set (k := 14) rfl h9) n14 b)).trans (hfA12 b kb j n6 n7 n8 n14)
      have hfo_152 : f_151 o0 = .inr (12, [.ref a_1, .ref a_2, .ref a_3, .int v_4, .ref a_5, .int v_6, .int v_66, .int v_8, .int v_9, .int v_10, .int v_11, .int v_12, .int v_13, .int v_14, .int 1, .ref a_16, .ref a_17, .ref a_18, .ref a_19, .ref a_20, .ref a_21, .ref a_22, .ref a_23, .int v_24, .int v_25, .int v_26, .int v_27, .int v_28, .ref a_29, .int v_30, .ref a_31, .ref a_32, .int v_33, .int v_34, .ref a_35, .int v_36, .ref a_37, .ref a_38, .int v_39, .int v_40, .ref a_41, .ref a_42, .ref a_43, .int v_44, .ref a_45, .ref a_46, .ref a_47, .ref a_48, .ref a_49, .ref a_50, .ref a_51, .ref a_52, .ref a_53, .int v_54, .int v_55, .ref a_56]) := by rw [ef_151]; exact up_self
      refine lv_goto (tgt := 129) hx hb dX12_takesX_32 (by decide) ?_
      have hclc_153 : (0 ≤ v_66.toInt ∧ v_66.toInt ≤ 599) := by constructor <;> omega
      refine lv_aload_n hx hb dX12_takesX_129 rfl (lv_at hl 1 rfl) ?_
      refine lv_dup hx hb dX12_takesX_130 rfl ?_
      refine tk_getP (D := (dC, dI)) (ci := 12) (v := .int v_66) (C := RX12) (T := TX12) (N := 56) hx hb hU inlX12 hown hK hP mo0 hfo_152 rfl 6 (by decide) (hU _ wd_566) (fun _ h9 => h9) rfl dX12_takesX_131 ?_
      refine lv_iconst (v := 1) hx hb dX12_takesX_134 (by decide) ?_
      refine lv_iadd hx hb dX12_takesX_135 ?_
      refine lv_topi (fun x_154 ex_154 => ?_)
      have hx_154 : x_154.toInt = v_66.toInt + 1 := by rw [ex_154, ad_I (by rw [ti_1]; omega) (by rw [ti_1]; omega), ti_1]
      have bx_154 : (1 ≤ x_154.toInt ∧ x_154.toInt ≤ 600) := by constructor <;> omega
      refine tk_putP (D := (dC, dI)) (ci := 12) (v := .int x_154) (ty := .int) (C := RX12) (T := TX12) (N := 56) hx hb hU inlX12 tyX12 tyX12_ok nmX12 hown hK hP hD hS mo0 hfo_152 rfl 6 (by decide) (hU _ wd_566) (fun _ h9 => h9) rfl (by decide +kernel) rfl rfl (Nat.le_of_ble_eq_true rfl) dX12_takesX_136 (fun H locs hP hD hS => ?_)
      have fa_155 := fu12_6 (y := x_154) fa_149 (by constructor <;> omega)
      obtain ⟨f_157, ef_157⟩ : ∃ y : Nat → va_E, y = va_up f_151 o0 (.inr (12, [.ref a_1, .ref a_2, .ref a_3, .int v_4, .ref a_5, .int v_6, .int x_154, .int v_8, .int v_9, .int v_10, .int v_11, .int v_12, .int v_13, .int v_14, .int 1, .ref a_16, .ref a_17, .ref a_18, .ref a_19, .ref a_20, .ref a_21, .ref a_22, .ref a_23, .int v_24, .int v_25, .int v_26, .int v_27, .int v_28, .ref a_29, .int v_30, .ref a_31, .ref a_32, .int v_33, .int v_34, .ref a_35, .int v_36, .ref a_37, .ref a_38, .int v_39, .int v_40, .ref a_41, .ref a_42, .ref a_43, .int v_44, .ref a_45, .ref a_46, .ref a_47, .ref a_48, .ref a_49, .ref a_50, .ref a_51, .ref a_52, .ref a_53, .int v_54, .int v_55, .ref a_56])) := ⟨_, rfl⟩
      have hP : va_P (dC, dI) vwCl (va_pl L f_157) H := by rw [ef_157]; exact hP
      have hD : va_D (fun q => q ∈ L) (va_pl L f_157) := by rw [ef_157]; exact hD
      have hG : GI (okc cI cL cZ cR cG cH L kd) kd L f_157 := by rw [ef_157]; exact hG.set o0 (mk_12 ko0 (fo12 fa_155))
      have hfr0 : ∀ b, kd b ≠ 12 → f_157 b = f b := fun b q12 => (congrFun ef_157 b).trans ((up_ne (fun e9 => q12 (by rw [e9]; exact ko0))).trans (hfr0 b q12))
      have hrA12 : ∀ b, kd b = 12 → ∀ j, fldR (f_157 b) j = fldR (f b) j := fun b kb j => ((congrArg (fun x => fldR x j) (congrFun ef_157 b)).trans (fra_up (fun j => by rw [hfo_152]; exact fr_set (k := 6) rfl rfl) j b)).trans (hrA12 b kb j)
      have hfA12 : ∀ b, kd b = 12 → ∀ j, j ≠ 6 → j ≠ 7 → j ≠ 8 → j ≠ 14 → fldI (f_157 b) j = fldI (f b) j := fun b kb j n6 n7 n8 n14 => ((congrArg (fun x => fldI x j) (congrFun ef_157 b)).trans (fia_up (fun h9 => by rw [hfo_152]; exact fi_set (k := 6) rfl h9) n6 b)).trans (hfA12 b kb j n6 n7 n8 n14)
      have hfo_158 : f_157 o0 = .inr (12, [.ref a_1, .ref a_2, .ref a_3, .int v_4, .ref a_5, .int v_6, .int x_154, .int v_8, .int v_9, .int v_10, .int v_11, .int v_12, .int v_13, .int v_14, .int 1, .ref a_16, .ref a_17, .ref a_18, .ref a_19, .ref a_20, .ref a_21, .ref a_22, .ref a_23, .int v_24, .int v_25, .int v_26, .int v_27, .int v_28, .ref a_29, .int v_30, .ref a_31, .ref a_32, .int v_33, .int v_34, .ref a_35, .int v_36, .ref a_37, .ref a_38, .int v_39, .int v_40, .ref a_41, .ref a_42, .ref a_43, .int v_44, .ref a_45, .ref a_46, .ref a_47, .ref a_48, .ref a_49, .ref a_50, .ref a_51, .ref a_52, .ref a_53, .int v_54, .int v_55, .ref a_56]) := by rw [ef_157]; exact up_self
      refine lv_iconst (v := 1) hx hb dX12_takesX_139 (by decide) ?_
      exact W.zret (v := 1) (ty := .boolean) hx hb hr rfl (fun t ht hW => ⟨⟨1, f_157, rfl, ⟨hG, (by decide), hfr0, hrA12, hfA12, (by intro w6 z6 e6 d6; rw [hfo_57] at e6; rw [hfo_158] at d6; obtain rfl := Option.some.inj e6; obtain rfl := Option.some.inj d6; (try rw [ti_1]) <;> omega)⟩, by rw [ht]; exact hP, va_K.moved hW.alike hK, pl_in hD⟩, hS.F ht⟩) hS.2.2 dX12_takesX_140
  · skip
    rw [← Int32.toInt_inj, ti_63] at c_69
    refine lv_aload_n hx hb dX12_takesX_11 rfl (lv_at hl 1 rfl) ?_
    refine lv_sipush (v := 511) hx hb dX12_takesX_12 (by decide) ?_
    refine tk_putP (D := (dC, dI)) (ci := 12) (v := .int 511) (ty := .int) (C := RX12) (T := TX12) (N := 56) hx hb hU inlX12 tyX12 tyX12_ok nmX12 hown hK hP hD hS mo0 hfo_67 rfl 14 (by decide) (hU _ wd_654) (fun _ h9 => h9) rfl (by decide +kernel) rfl rfl (Nat.le_of_ble_eq_true rfl) dX12_takesX_15 (fun H locs hP hD hS => ?_)
    have fa_159 := fu12_14 (y := 511) fa_68
    obtain ⟨f_161, ef_161⟩ : ∃ y : Nat → va_E, y = va_up f_60 o0 (.inr (12, [.ref a_1, .ref a_2, .ref a_3, .int v_4, .ref a_5, .int v_6, .int v_66, .int v_8, .int v_9, .int v_10, .int v_11, .int v_12, .int v_13, .int v_14, .int 511, .ref a_16, .ref a_17, .ref a_18, .ref a_19, .ref a_20, .ref a_21, .ref a_22, .ref a_23, .int v_24, .int v_25, .int v_26, .int v_27, .int v_28, .ref a_29, .int v_30, .ref a_31, .ref a_32, .int v_33, .int v_34, .ref a_35, .int v_36, .ref a_37, .ref a_38, .int v_39, .int v_40, .ref a_41, .ref a_42, .ref a_43, .int v_44, .ref a_45, .ref a_46, .ref a_47, .ref a_48, .ref a_49, .ref a_50, .ref a_51, .ref a_52, .ref a_53, .int v_54, .int v_55, .ref a_56])) := ⟨_, rfl⟩
    have hP : va_P (dC, dI) vwCl (va_pl L f_161) H := by rw [ef_161]; exact hP
    have hD : va_D (fun q => q ∈ L) (va_pl L f_161) := by rw [ef_161]; exact hD
    have hG : GI (okc cI cL cZ cR cG cH L kd) kd L f_161 := by rw [ef_161]; exact hG.set o0 (mk_12 ko0 (fo12 fa_159))
    have hfr0 : ∀ b, kd b ≠ 12 → f_161 b = f b := fun b q12 => (congrFun ef_161 b).trans ((up_ne (fun e9 => q12 (by rw [e9]; exact ko0))).trans (hfr0 b q12))
    have hrA12 : ∀ b, kd b = 12 → ∀ j, fldR (f_161 b) j = fldR (f b) j := fun b kb j => ((congrArg (fun x => fldR x j) (congrFun ef_161 b)).trans (fra_up (fun j => by rw [hfo_67]; exact fr_set (k := 14) rfl rfl) j b)).trans (hrA12 b kb j)
    have hfA12 : ∀ b, kd b = 12 → ∀ j, j ≠ 6 → j ≠ 7 → j ≠ 8 → j ≠ 14 → fldI (f_161 b) j = fldI (f b) j := fun b kb j n6 n7 n8 n14 => ((congrArg (fun x => fldI x j) (congrFun ef_161 b)).trans (fia_up (fun h9 => by rw [hfo_67]; exact fi_set (k := 14) rfl h9) n14 b)).trans (hfA12 b kb j n6 n7 n8 n14)
    have hfo_162 : f_161 o0 = .inr (12, [.ref a_1, .ref a_2, .ref a_3, .int v_4, .ref a_5, .int v_6, .int v_66, .int v_8, .int v_9, .int v_10, .int v_11, .int v_12, .int v_13, .int v_14, .int 511, .ref a_16, .ref a_17, .ref a_18, .ref a_19, .ref a_20, .ref a_21, .ref a_22, .ref a_23, .int v_24, .int v_25, .int v_26, .int v_27, .int v_28, .ref a_29, .int v_30, .ref a_31, .ref a_32, .int v_33, .int v_34, .ref a_35, .int v_36, .ref a_37, .ref a_38, .int v_39, .int v_40, .ref a_41, .ref a_42, .ref a_43, .int v_44, .ref a_45, .ref a_46, .ref a_47, .ref a_48, .ref a_49, .ref a_50, .ref a_51, .ref a_52, .ref a_53, .int v_54, .int v_55, .ref a_56]) := by rw [ef_161]; exact up_self
    refine lv_goto (tgt := 129) hx hb dX12_takesX_18 (by decide) ?_
    have hclc_163 : (0 ≤ v_66.toInt ∧ v_66.toInt ≤ 599) := by constructor <;> omega
    refine lv_aload_n hx hb dX12_takesX_129 rfl (lv_at hl 1 rfl) ?_
    refine lv_dup hx hb dX12_takesX_130 rfl ?_
    refine tk_getP (D := (dC, dI)) (ci := 12) (v := .int v_66) (C := RX12) (T := TX12) (N := 56) hx hb hU inlX12 hown hK hP mo0 hfo_162 rfl 6 (by decide) (hU _ wd_566) (fun _ h9 => h9) rfl dX12_takesX_131 ?_
    refine lv_iconst (v := 1) hx hb dX12_takesX_134 (by decide) ?_
    refine lv_iadd hx hb dX12_takesX_135 ?_
    refine lv_topi (fun x_164 ex_164 => ?_)
    have hx_164 : x_164.toInt = v_66.toInt + 1 := by rw [ex_164, ad_I (by rw [ti_1]; omega) (by rw [ti_1]; omega), ti_1]
    have bx_164 : (1 ≤ x_164.toInt ∧ x_164.toInt ≤ 600) := by constructor <;> omega
    refine tk_putP (D := (dC, dI)) (ci := 12) (v := .int x_164) (ty := .int) (C := RX12) (T := TX12) (N := 56) hx hb hU inlX12 tyX12 tyX12_ok nmX12 hown hK hP hD hS mo0 hfo_162 rfl 6 (by decide) (hU _ wd_566) (fun _ h9 => h9) rfl (by decide +kernel) rfl rfl (Nat.le_of_ble_eq_true rfl) dX12_takesX_136 (fun H locs hP hD hS => ?_)
    have fa_165 := fu12_6 (y := x_164) fa_159 (by constructor <;> omega)
    obtain ⟨f_167, ef_167⟩ : ∃ y : Nat → va_E, y = va_up f_161 o0 (.inr (12, [.ref a_1, .ref a_2, .ref a_3, .int v_4, .ref a_5, .int v_6, .int x_164, .int v_8, .int v_9, .int v_10, .int v_11, .int v_12, .int v_13, .int v_14, .int 511, .ref a_16, .ref a_17, .ref a_18, .ref a_19, .ref a_20, .ref a_21, .ref a_22, .ref a_23, .int v_24, .int v_25, .int v_26, .int v_27, .int v_28, .ref a_29, .int v_30, .ref a_31, .ref a_32, .int v_33, .int v_34, .ref a_35, .int v_36, .ref a_37, .ref a_38, .int v_39, .int v_40, .ref a_41, .ref a_42, .ref a_43, .int v_44, .ref a_45, .ref a_46, .ref a_47, .ref a_48, .ref a_49, .ref a_50, .ref a_51, .ref a_52, .ref a_53, .int v_54, .int v_55, .ref a_56])) := ⟨_, rfl⟩
    have hP : va_P (dC, dI) vwCl (va_pl L f_167) H := by rw [ef_167]; exact hP
    have hD : va_D (fun q => q ∈ L) (va_pl L f_167) := by rw [ef_167]; exact hD
    have hG : GI (okc cI cL cZ cR cG cH L kd) kd L f_167 := by rw [ef_167]; exact hG.set o0 (mk_12 ko0 (fo12 fa_165))
    have hfr0 : ∀ b, kd b ≠ 12 → f_167 b = f b := fun b q12 => (congrFun ef_167 b).trans ((up_ne (fun e9 => q12 (by rw [e9]; exact ko0))).trans (hfr0 b q12))
    have hrA12 : ∀ b, kd b = 12 → ∀ j, fldR (f_167 b) j = fldR (f b) j := fun b kb j => ((congrArg (fun x => fldR x j) (congrFun ef_167 b)).trans (fra_up (fun j => by rw [hfo_162]; exact fr_set (k := 6) rfl rfl) j b)).trans (hrA12 b kb j)
    have hfA12 : ∀ b, kd b = 12 → ∀ j, j ≠ 6 → j ≠ 7 → j ≠ 8 → j ≠ 14 → fldI (f_167 b) j = fldI (f b) j := fun b kb j n6 n7 n8 n14 => ((congrArg (fun x => fldI x j) (congrFun ef_167 b)).trans (fia_up (fun h9 => by rw [hfo_162]; exact fi_set (k := 6) rfl h9) n6 b)).trans (hfA12 b kb j n6 n7 n8 n14)
    have hfo_168 : f_167 o0 = .inr (12, [.ref a_1, .ref a_2, .ref a_3, .int v_4, .ref a_5, .int v_6, .int x_164, .int v_8, .int v_9, .int v_10, .int v_11, .int v_12, .int v_13, .int v_14, .int 511, .ref a_16, .ref a_17, .ref a_18, .ref a_19, .ref a_20, .ref a_21, .ref a_22, .ref a_23, .int v_24, .int v_25, .int v_26, .int v_27, .int v_28, .ref a_29, .int v_30, .ref a_31, .ref a_32, .int v_33, .int v_34, .ref a_35, .int v_36, .ref a_37, .ref a_38, .int v_39, .int v_40, .ref a_41, .ref a_42, .ref a_43, .int v_44, .ref a_45, .ref a_46, .ref a_47, .ref a_48, .ref a_49, .ref a_50, .ref a_51, .ref a_52, .ref a_53, .int v_54, .int v_55, .ref a_56]) := by rw [ef_167]; exact up_self
    refine lv_iconst (v := 1) hx hb dX12_takesX_139 (by decide) ?_
    exact W.zret (v := 1) (ty := .boolean) hx hb hr rfl (fun t ht hW => ⟨⟨1, f_167, rfl, ⟨hG, (by decide), hfr0, hrA12, hfA12, (by intro w6 z6 e6 d6; rw [hfo_57] at e6; rw [hfo_168] at d6; obtain rfl := Option.some.inj e6; obtain rfl := Option.some.inj d6; (try rw [ti_1]) <;> omega)⟩, by rw [ht]; exact hP, va_K.moved hW.alike hK, pl_in hD⟩, hS.F ht⟩) hS.2.2 dX12_takesX_140
set_option maxHeartbeats 8000000 in
set_option maxRecDepth 100000 in
theorem s_X12_isX (l : Launch) (D : va_G) (cI cL cZ cR cG cH : ClassId) (Z : zT) (kd : Nat → Nat) (L : List Nat) (f : Nat → va_E) (hG : GI (okc cI cL cZ cR cG cH L kd) kd L f) (p0 : Int32) : mPI l D cI cL cZ cR cG cH Z yX12_isX cX12_isX 1 (some .boolean) 2 42 [.int p0] L f (fun (r : Int32) (f9 : Nat → va_E) => f = f9 ∧ (0 ≤ r.toInt ∧ r.toInt ≤ 1)) := by
  obtain ⟨dC, dI⟩ := D
  refine Met.ofW (cc := cX12_isX) (maxL := 1) (ret := (some .boolean)) (by decide) rfl ?_
  intro p e s m args below meth c s₁ B hml hv
  obtain ⟨rfl, hP, hK, hD0, hN, hZ⟩ := hv
  have hx := B.exec
  have hb := B.bytes
  have hr := B.returns
  have hU : ∀ w ∈ wsU, w.before _ s = true := fun w h => atoms_spec (ws := wU yX12_isX cX12_isX 1 (some .boolean)) B.pre w (List.mem_cons_of_mem _ h)
  have hown : s.vm.findClass RX12 = some m.cls := findClass_of_methodNamed B.named
  have hlocks := B.notSynchronized
  have hD := pl_in hD0
  have hS : va_S (fun q => q ∈ L) s.heap s.heap [] := va_S.rf
  have hl := lv_entry ([.int p0]) (n := 1) (Nat.le_of_ble_eq_true rfl)
  rw [lg_entry_eq]
  generalize (lg_sl ([.int p0]) ++ List.replicate (1 - (lg_sl ([.int p0])).length) Slot.unset).toArray = ls at hl ⊢
  have hl : lv_has ls 1 [(0, .int p0)] := hl
  have bp0 : ((-2147483648) ≤ p0.toInt ∧ p0.toInt ≤ 2147483647) := ⟨i32_lo _, i32_hi _⟩
  refine lv_iload_n hx hb dX12_isX_0 rfl (lv_at hl 0 rfl) ?_
  refine lv_bipush (v := 63) hx hb dX12_isX_1 (by decide) ?_
  refine lv_icmp_eq (tgt := 30) hx hb dX12_isX_3 (by decide) (fun c_1 => ?_) (fun c_1 => ?_)
  · skip
    rw [← Int32.toInt_inj, ti_63] at c_1
    refine lv_iconst (v := 1) hx hb dX12_isX_30 (by decide) ?_
    refine lv_goto (tgt := 35) hx hb dX12_isX_31 (by decide) ?_
    exact W.zret (v := 1) (ty := .boolean) hx hb hr rfl (fun t ht hW => ⟨⟨1, f, rfl, ⟨rfl, (by decide)⟩, by rw [ht]; exact hP, va_K.moved hW.alike hK, pl_in hD⟩, hS.F ht⟩) hS.2.2 dX12_isX_35
  · skip
    rw [← Int32.toInt_inj, ti_63] at c_1
    refine lv_iload_n hx hb dX12_isX_6 rfl (lv_at hl 0 rfl) ?_
    refine lv_bipush (v := 48) hx hb dX12_isX_7 (by decide) ?_
    refine lv_icmp_eq (tgt := 30) hx hb dX12_isX_9 (by decide) (fun c_2 => ?_) (fun c_2 => ?_)
    · skip
      rw [← Int32.toInt_inj, ti_48] at c_2
      refine lv_iconst (v := 1) hx hb dX12_isX_30 (by decide) ?_
      refine lv_goto (tgt := 35) hx hb dX12_isX_31 (by decide) ?_
      exact W.zret (v := 1) (ty := .boolean) hx hb hr rfl (fun t ht hW => ⟨⟨1, f, rfl, ⟨rfl, (by decide)⟩, by rw [ht]; exact hP, va_K.moved hW.alike hK, pl_in hD⟩, hS.F ht⟩) hS.2.2 dX12_isX_35
    · skip
      rw [← Int32.toInt_inj, ti_48] at c_2
      refine lv_iload_n hx hb dX12_isX_12 rfl (lv_at hl 0 rfl) ?_
      refine lv_bipush (v := 65) hx hb dX12_isX_13 (by decide) ?_
      refine lv_bipush (v := 70) hx hb dX12_isX_15 (by decide) ?_
      refine tk_SiP (As := [.int p0, .int 65, .int 70]) (rest := []) (n := 3) hx hb hml hown hU hN hZ (s_X12_isIn l (dC, dI) cI cL cZ cR cG cH Z kd L f hG p0 65 70) wd_227 wd_228 wd_5 wd_229 (by decide +kernel) ⟨Nat.le_of_ble_eq_true rfl, Nat.le_of_ble_eq_true rfl⟩ hK hP hD hS rfl hl.1 rfl (Nat.le_of_ble_eq_true rfl) dX12_isX_17 ⟨Nat.le_of_ble_eq_true rfl, Nat.le_of_ble_eq_true rfl⟩ (fun x_3 f_4 H locs hw hP hD hS => ?_)
      obtain ⟨rfl, bx_3, relx_3⟩ := hw
      try rw [ti_65] at relx_3
      try rw [ti_70] at relx_3
      refine lv_if_ne (tgt := 30) hx hb dX12_isX_20 (by decide) (fun c_6 => ?_) (fun c_6 => ?_)
      · skip
        rw [← Int32.toInt_inj, ti_0] at c_6
        refine lv_iconst (v := 1) hx hb dX12_isX_30 (by decide) ?_
        refine lv_goto (tgt := 35) hx hb dX12_isX_31 (by decide) ?_
        exact W.zret (v := 1) (ty := .boolean) hx hb hr rfl (fun t ht hW => ⟨⟨1, f, rfl, ⟨rfl, (by decide)⟩, by rw [ht]; exact hP, va_K.moved hW.alike hK, pl_in hD⟩, hS.F ht⟩) hS.2.2 dX12_isX_35
      · skip
        rw [← Int32.toInt_inj, ti_0] at c_6
        refine lv_iload_n hx hb dX12_isX_23 rfl (lv_at hl 0 rfl) ?_
        refine tk_SiP (As := [.int p0]) (rest := []) (n := 1) hx hb hml hown hU hN hZ (s_X12_isSmall l (dC, dI) cI cL cZ cR cG cH Z kd L f hG p0) wd_589 wd_590 wd_5 wd_591 (by decide +kernel) ⟨Nat.le_of_ble_eq_true rfl, Nat.le_of_ble_eq_true rfl⟩ hK hP hD hS rfl hl.1 rfl (Nat.le_of_ble_eq_true rfl) dX12_isX_24 ⟨Nat.le_of_ble_eq_true rfl, Nat.le_of_ble_eq_true rfl⟩ (fun x_7 f_8 H locs hw hP hD hS => ?_)
        obtain ⟨rfl, bx_7, relx_7⟩ := hw
        refine lv_if_eq (tgt := 34) hx hb dX12_isX_27 (by decide) (fun c_10 => ?_) (fun c_10 => ?_)
        · skip
          rw [← Int32.toInt_inj, ti_0] at c_10
          refine lv_iconst (v := 0) hx hb dX12_isX_34 (by decide) ?_
          exact W.zret (v := 0) (ty := .boolean) hx hb hr rfl (fun t ht hW => ⟨⟨0, f, rfl, ⟨rfl, (by decide)⟩, by rw [ht]; exact hP, va_K.moved hW.alike hK, pl_in hD⟩, hS.F ht⟩) hS.2.2 dX12_isX_35
        · skip
          rw [← Int32.toInt_inj, ti_0] at c_10
          refine lv_iconst (v := 1) hx hb dX12_isX_30 (by decide) ?_
          refine lv_goto (tgt := 35) hx hb dX12_isX_31 (by decide) ?_
          exact W.zret (v := 1) (ty := .boolean) hx hb hr rfl (fun t ht hW => ⟨⟨1, f, rfl, ⟨rfl, (by decide)⟩, by rw [ht]; exact hP, va_K.moved hW.alike hK, pl_in hD⟩, hS.F ht⟩) hS.2.2 dX12_isX_35
