set_option maxHeartbeats 8000000 in
set_option maxRecDepth 100000 in
theorem s_X12_op_k12 (l : Launch) (D : va_G) (cI cL cZ cR cG cH : ClassId) (Z : zT) (kd : Nat → Nat) (L : List Nat) (f : Nat → va_E) (hG : GI (okc cI cL cZ cR cG cH L kd) kd L f) (o0 : Nat) (mo0 : o0 ∈ L) (ko0 : kd o0 = 12) : mPI l D cI cL cZ cR cG cH Z yX12_op cX12_op 4 (some .int) 3 61 [.ref o0] L f (fun (r : Int32) (f9 : Nat → va_E) => GI (okc cI cL cZ cR cG cH L kd) kd L f9 ∧ ((-1) ≤ r.toInt ∧ r.toInt ≤ 3) ∧ (∀ b, kd b ≠ 12 → f9 b = f b) ∧ (∀ b, kd b = 12 → ∀ j, fldR (f9 b) j = fldR (f b) j) ∧ (∀ b, kd b = 12 → ∀ j, j ≠ 6 → fldI (f9 b) j = fldI (f b) j) ∧ (∀ (w6 z6 : Int32), fldI (f o0) 6 = some w6 → fldI (f9 o0) 6 = some z6 → w6.toInt ≤ z6.toInt ∧ (r.toInt = -1 ∨ (r.toInt ≤ 1 ∧ z6.toInt + 2 ≤ 600) ∨ z6.toInt + 3 ≤ 600))) := by
  obtain ⟨dC, dI⟩ := D
  refine Met.ofW (cc := cX12_op) (maxL := 4) (ret := (some .int)) (by decide) rfl ?_
  intro p e s m args below meth c s₁ B hml hv
  obtain ⟨rfl, hP, hK, hD0, hN, hZ⟩ := hv
  have hx := B.exec
  have hb := B.bytes
  have hr := B.returns
  have hU : ∀ w ∈ wsU, w.before _ s = true := fun w h => atoms_spec (ws := wU yX12_op cX12_op 4 (some .int)) B.pre w (List.mem_cons_of_mem _ h)
  have hown : s.vm.findClass RX12 = some m.cls := findClass_of_methodNamed B.named
  have hlocks := B.notSynchronized
  have hD := pl_in hD0
  have hS : va_S (fun q => q ∈ L) s.heap s.heap [] := va_S.rf
  have hl := lv_entry ([.ref o0]) (n := 4) (Nat.le_of_ble_eq_true rfl)
  rw [lg_entry_eq]
  generalize (lg_sl ([.ref o0]) ++ List.replicate (4 - (lg_sl ([.ref o0])).length) Slot.unset).toArray = ls at hl ⊢
  have hl : lv_has ls 4 [(0, .ref o0)] := hl
  have hfr0 : ∀ b, kd b ≠ 12 → f b = f b := fun _ _ => rfl
  have hrA12 : ∀ b, kd b = 12 → ∀ j, fldR (f b) j = fldR (f b) j := fun _ _ _ => rfl
  have hfA12 : ∀ b, kd b = 12 → ∀ j, j ≠ 6 → fldI (f b) j = fldI (f b) j := fun _ _ _ _ => rfl
  obtain ⟨a_2, a_3, a_4, v_5, a_6, v_7, v_8, v_9, v_10, v_11, v_12, v_13, v_14, v_15, v_16, a_17, a_18, a_19, a_20, a_21, a_22, a_23, a_24, v_25, v_26, v_27, v_28, v_29, a_30, v_31, a_32, a_33, v_34, v_35, a_36, v_37, a_38, a_39, v_40, v_41, a_42, a_43, a_44, v_45, a_46, a_47, a_48, a_49, a_50, a_51, a_52, a_53, a_54, v_55, v_56, a_57, hfo_1, ⟨ma_2, ka_2⟩, ⟨ma_3, ka_3⟩, ⟨ma_4, ka_4⟩, bv_5, ⟨ma_6, ka_6⟩, bv_7, bv_8, bv_13, bv_14, bv_15, ⟨ma_17, ka_17⟩, ⟨ma_18, ka_18⟩, ⟨ma_19, ka_19⟩, ⟨ma_20, ka_20⟩, ⟨ma_21, ka_21⟩, ⟨ma_22, ka_22⟩, ⟨ma_23, ka_23⟩, ⟨ma_24, ka_24⟩, bv_25, bv_27, bv_29, ⟨ma_30, ka_30⟩, bv_31, ⟨ma_32, ka_32⟩, ⟨ma_33, ka_33⟩, bv_34, ⟨ma_36, ka_36⟩, bv_37, ⟨ma_38, ka_38⟩, ⟨ma_39, ka_39⟩, bv_40, ⟨ma_42, ka_42⟩, ⟨ma_43, ka_43⟩, ⟨ma_44, ka_44⟩, bv_45, ⟨ma_46, ka_46⟩, ⟨ma_47, ka_47⟩, ⟨ma_48, ka_48⟩, ⟨ma_49, ka_49⟩, ⟨ma_50, ka_50⟩, ⟨ma_51, ka_51⟩, ⟨ma_52, ka_52⟩, ⟨ma_53, ka_53⟩, ⟨ma_54, ka_54⟩, bv_55, ⟨ma_57, ka_57⟩⟩ := un_12 (hG _ mo0) ko0
  have bv_9 : ((-2147483648) ≤ v_9.toInt ∧ v_9.toInt ≤ 2147483647) := ⟨i32_lo _, i32_hi _⟩
  have bv_10 : ((-2147483648) ≤ v_10.toInt ∧ v_10.toInt ≤ 2147483647) := ⟨i32_lo _, i32_hi _⟩
  have bv_11 : ((-2147483648) ≤ v_11.toInt ∧ v_11.toInt ≤ 2147483647) := ⟨i32_lo _, i32_hi _⟩
  have bv_12 : ((-2147483648) ≤ v_12.toInt ∧ v_12.toInt ≤ 2147483647) := ⟨i32_lo _, i32_hi _⟩
  have bv_16 : ((-2147483648) ≤ v_16.toInt ∧ v_16.toInt ≤ 2147483647) := ⟨i32_lo _, i32_hi _⟩
  have bv_26 : ((-2147483648) ≤ v_26.toInt ∧ v_26.toInt ≤ 2147483647) := ⟨i32_lo _, i32_hi _⟩
  have bv_28 : ((-2147483648) ≤ v_28.toInt ∧ v_28.toInt ≤ 2147483647) := ⟨i32_lo _, i32_hi _⟩
  have bv_35 : ((-2147483648) ≤ v_35.toInt ∧ v_35.toInt ≤ 2147483647) := ⟨i32_lo _, i32_hi _⟩
  have bv_41 : ((-2147483648) ≤ v_41.toInt ∧ v_41.toInt ≤ 2147483647) := ⟨i32_lo _, i32_hi _⟩
  have bv_56 : ((-2147483648) ≤ v_56.toInt ∧ v_56.toInt ≤ 2147483647) := ⟨i32_lo _, i32_hi _⟩
  refine lv_aload_n hx hb dX12_op_0 rfl (lv_at hl 0 rfl) ?_
  refine tk_ViP (As := []) (rest := []) (n := 0) hx hb hml hown hU hN hZ (s_X12_sign_k12 l (dC, dI) cI cL cZ cR cG cH Z kd L f hG o0 mo0 ko0) wd_573 wd_574 wd_575 wd_5 wd_576 (by decide +kernel) ⟨Nat.le_of_ble_eq_true rfl, Nat.le_of_ble_eq_true rfl⟩ hK hP hD hS mo0 hfo_1 12 rfl rfl rfl hl.1 rfl (Nat.le_of_ble_eq_true rfl) dX12_op_1 ⟨Nat.le_of_ble_eq_true rfl, Nat.le_of_ble_eq_true rfl⟩ (fun x_58 f_59 H locs hw hP hD hS => ?_)
  obtain ⟨hG, bx_58, hkc_60, hra_61, hfa_62, hpost_63⟩ := hw
  have hfr0 : ∀ b, kd b ≠ 12 → f_59 b = f b := fun b q12 => (hkc_60 b q12).trans (hfr0 b q12)
  have hrA12 : ∀ b, kd b = 12 → ∀ j, fldR (f_59 b) j = fldR (f b) j := fun b kb j => (hra_61 b kb j).trans (hrA12 b kb j)
  have hfA12 : ∀ b, kd b = 12 → ∀ j, j ≠ 6 → fldI (f_59 b) j = fldI (f b) j := fun b kb j n6 => (hfa_62 b kb j n6).trans (hfA12 b kb j n6)
  obtain ⟨a_66, a_67, a_68, v_69, a_70, v_71, v_72, v_73, v_74, v_75, v_76, v_77, v_78, v_79, v_80, a_81, a_82, a_83, a_84, a_85, a_86, a_87, a_88, v_89, v_90, v_91, v_92, v_93, a_94, v_95, a_96, a_97, v_98, v_99, a_100, v_101, a_102, a_103, v_104, v_105, a_106, a_107, a_108, v_109, a_110, a_111, a_112, a_113, a_114, a_115, a_116, a_117, a_118, v_119, v_120, a_121, hfo_65, ⟨ma_66, ka_66⟩, ⟨ma_67, ka_67⟩, ⟨ma_68, ka_68⟩, bv_69, ⟨ma_70, ka_70⟩, bv_71, bv_72, bv_77, bv_78, bv_79, ⟨ma_81, ka_81⟩, ⟨ma_82, ka_82⟩, ⟨ma_83, ka_83⟩, ⟨ma_84, ka_84⟩, ⟨ma_85, ka_85⟩, ⟨ma_86, ka_86⟩, ⟨ma_87, ka_87⟩, ⟨ma_88, ka_88⟩, bv_89, bv_91, bv_93, ⟨ma_94, ka_94⟩, bv_95, ⟨ma_96, ka_96⟩, ⟨ma_97, ka_97⟩, bv_98, ⟨ma_100, ka_100⟩, bv_101, ⟨ma_102, ka_102⟩, ⟨ma_103, ka_103⟩, bv_104, ⟨ma_106, ka_106⟩, ⟨ma_107, ka_107⟩, ⟨ma_108, ka_108⟩, bv_109, ⟨ma_110, ka_110⟩, ⟨ma_111, ka_111⟩, ⟨ma_112, ka_112⟩, ⟨ma_113, ka_113⟩, ⟨ma_114, ka_114⟩, ⟨ma_115, ka_115⟩, ⟨ma_116, ka_116⟩, ⟨ma_117, ka_117⟩, ⟨ma_118, ka_118⟩, bv_119, ⟨ma_121, ka_121⟩⟩ := un_12 (hG _ mo0) ko0
  have bv_73 : ((-2147483648) ≤ v_73.toInt ∧ v_73.toInt ≤ 2147483647) := ⟨i32_lo _, i32_hi _⟩
  have bv_74 : ((-2147483648) ≤ v_74.toInt ∧ v_74.toInt ≤ 2147483647) := ⟨i32_lo _, i32_hi _⟩
  have bv_75 : ((-2147483648) ≤ v_75.toInt ∧ v_75.toInt ≤ 2147483647) := ⟨i32_lo _, i32_hi _⟩
  have bv_76 : ((-2147483648) ≤ v_76.toInt ∧ v_76.toInt ≤ 2147483647) := ⟨i32_lo _, i32_hi _⟩
  have bv_80 : ((-2147483648) ≤ v_80.toInt ∧ v_80.toInt ≤ 2147483647) := ⟨i32_lo _, i32_hi _⟩
  have bv_90 : ((-2147483648) ≤ v_90.toInt ∧ v_90.toInt ≤ 2147483647) := ⟨i32_lo _, i32_hi _⟩
  have bv_92 : ((-2147483648) ≤ v_92.toInt ∧ v_92.toInt ≤ 2147483647) := ⟨i32_lo _, i32_hi _⟩
  have bv_99 : ((-2147483648) ≤ v_99.toInt ∧ v_99.toInt ≤ 2147483647) := ⟨i32_lo _, i32_hi _⟩
  have bv_105 : ((-2147483648) ≤ v_105.toInt ∧ v_105.toInt ≤ 2147483647) := ⟨i32_lo _, i32_hi _⟩
  have bv_120 : ((-2147483648) ≤ v_120.toInt ∧ v_120.toInt ≤ 2147483647) := ⟨i32_lo _, i32_hi _⟩
  obtain ⟨rfl, rfl, rfl, rfl, rfl, rfl, rfl, rfl, rfl, rfl, rfl, rfl, rfl, rfl, rfl, rfl, rfl, rfl, rfl, rfl, rfl, rfl, rfl, rfl, rfl, rfl, rfl, rfl, rfl, rfl, rfl⟩ := re_12 hfo_1 hfo_65 (hrA12 o0 ko0)
  obtain rfl := ri_12_3 hfo_1 hfo_65 (hfA12 o0 ko0 3 (by decide))
  obtain rfl := ri_12_5 hfo_1 hfo_65 (hfA12 o0 ko0 5 (by decide))
  obtain rfl := ri_12_11 hfo_1 hfo_65 (hfA12 o0 ko0 11 (by decide))
  obtain rfl := ri_12_12 hfo_1 hfo_65 (hfA12 o0 ko0 12 (by decide))
  obtain rfl := ri_12_13 hfo_1 hfo_65 (hfA12 o0 ko0 13 (by decide))
  obtain rfl := ri_12_14 hfo_1 hfo_65 (hfA12 o0 ko0 14 (by decide))
  obtain rfl := ri_12_23 hfo_1 hfo_65 (hfA12 o0 ko0 23 (by decide))
  obtain rfl := ri_12_25 hfo_1 hfo_65 (hfA12 o0 ko0 25 (by decide))
  obtain rfl := ri_12_27 hfo_1 hfo_65 (hfA12 o0 ko0 27 (by decide))
  obtain rfl := ri_12_29 hfo_1 hfo_65 (hfA12 o0 ko0 29 (by decide))
  obtain rfl := ri_12_32 hfo_1 hfo_65 (hfA12 o0 ko0 32 (by decide))
  obtain rfl := ri_12_33 hfo_1 hfo_65 (hfA12 o0 ko0 33 (by decide))
  obtain rfl := ri_12_35 hfo_1 hfo_65 (hfA12 o0 ko0 35 (by decide))
  obtain rfl := ri_12_38 hfo_1 hfo_65 (hfA12 o0 ko0 38 (by decide))
  obtain rfl := ri_12_43 hfo_1 hfo_65 (hfA12 o0 ko0 43 (by decide))
  obtain rfl := ri_12_53 hfo_1 hfo_65 (hfA12 o0 ko0 53 (by decide))
  have hqhpost_63 := hpost_63 v_8 v_72 (by rw [hfo_1]; rfl) (by rw [hfo_65]; rfl)
  refine lv_istore_n (lv' := [(1, .int x_58), (0, .ref o0)]) hx hb dX12_op_4 rfl hl (by decide) rfl (fun ls hl => ?_)
  refine lv_aload_n hx hb dX12_op_5 rfl (lv_at hl 1 rfl) ?_
  refine lv_aload_n hx hb dX12_op_6 rfl (lv_at hl 1 rfl) ?_
  refine tk_getP (D := (dC, dI)) (ci := 12) (v := .int v_72) (C := RX12) (T := TX12) (N := 56) hx hb hU inlX12 hown hK hP mo0 hfo_65 rfl 6 (by decide) (hU _ wd_566) (fun _ h9 => h9) rfl dX12_op_7 ?_
  refine lv_iconst (v := 1) hx hb dX12_op_10 (by decide) ?_
  refine lv_iadd hx hb dX12_op_11 ?_
  refine lv_topi (fun x_122 ex_122 => ?_)
  have hx_122 : x_122.toInt = v_72.toInt + 1 := by rw [ex_122, ad_I (by rw [ti_1]; omega) (by rw [ti_1]; omega), ti_1]
  have bx_122 : (1 ≤ x_122.toInt ∧ x_122.toInt ≤ 601) := by constructor <;> omega
  refine tk_ViP (As := [.int x_122]) (rest := []) (n := 1) hx hb hml hown hU hN hZ (s_X12_see_k12 l (dC, dI) cI cL cZ cR cG cH Z kd L f_59 hG o0 mo0 ko0 x_122 (by constructor <;> omega)) wd_581 wd_582 wd_583 wd_5 wd_584 (by decide +kernel) ⟨Nat.le_of_ble_eq_true rfl, Nat.le_of_ble_eq_true rfl⟩ hK hP hD hS mo0 hfo_65 12 rfl rfl rfl hl.1 rfl (Nat.le_of_ble_eq_true rfl) dX12_op_12 ⟨Nat.le_of_ble_eq_true rfl, Nat.le_of_ble_eq_true rfl⟩ (fun x_123 f_124 H locs hw hP hD hS => ?_)
  obtain ⟨rfl, bx_123, hxp_125⟩ := hw
  have hsex_123 := hxp_125 v_7 (by rw [hfo_65]; rfl)
  refine lv_istore_n (lv' := [(2, .int x_123), (1, .int x_58), (0, .ref o0)]) hx hb dX12_op_15 rfl hl (by decide) rfl (fun ls hl => ?_)
  refine lv_aload_n hx hb dX12_op_16 rfl (lv_at hl 2 rfl) ?_
  refine lv_aload_n hx hb dX12_op_17 rfl (lv_at hl 2 rfl) ?_
  refine tk_getP (D := (dC, dI)) (ci := 12) (v := .int v_72) (C := RX12) (T := TX12) (N := 56) hx hb hU inlX12 hown hK hP mo0 hfo_65 rfl 6 (by decide) (hU _ wd_566) (fun _ h9 => h9) rfl dX12_op_18 ?_
  refine lv_iconst (v := 2) hx hb dX12_op_21 (by decide) ?_
  refine lv_iadd hx hb dX12_op_22 ?_
  refine lv_topi (fun x_127 ex_127 => ?_)
  have hx_127 : x_127.toInt = v_72.toInt + 2 := by rw [ex_127, ad_I (by rw [ti_2]; omega) (by rw [ti_2]; omega), ti_2]
  have bx_127 : (2 ≤ x_127.toInt ∧ x_127.toInt ≤ 602) := by constructor <;> omega
  refine tk_ViP (As := [.int x_127]) (rest := []) (n := 1) hx hb hml hown hU hN hZ (s_X12_see_k12 l (dC, dI) cI cL cZ cR cG cH Z kd L f_59 hG o0 mo0 ko0 x_127 (by constructor <;> omega)) wd_581 wd_582 wd_583 wd_5 wd_584 (by decide +kernel) ⟨Nat.le_of_ble_eq_true rfl, Nat.le_of_ble_eq_true rfl⟩ hK hP hD hS mo0 hfo_65 12 rfl rfl rfl hl.1 rfl (Nat.le_of_ble_eq_true rfl) dX12_op_23 ⟨Nat.le_of_ble_eq_true rfl, Nat.le_of_ble_eq_true rfl⟩ (fun x_128 f_129 H locs hw hP hD hS => ?_)
  obtain ⟨rfl, bx_128, hxp_130⟩ := hw
  have hsex_128 := hxp_130 v_7 (by rw [hfo_65]; rfl)
  refine lv_istore_n (lv' := [(3, .int x_128), (2, .int x_123), (1, .int x_58), (0, .ref o0)]) hx hb dX12_op_26 rfl hl (by decide) rfl (fun ls hl => ?_)
  refine lv_iload_n hx hb dX12_op_27 rfl (lv_at hl 2 rfl) ?_
  refine lv_bipush (v := 61) hx hb dX12_op_28 (by decide) ?_
  refine lv_icmp_ne (tgt := 41) hx hb dX12_op_30 (by decide) (fun c_132 => ?_) (fun c_132 => ?_)
  · skip
    rw [← Int32.toInt_inj, ti_61] at c_132
    refine lv_iload_n hx hb dX12_op_41 rfl (lv_at hl 2 rfl) ?_
    refine lv_bipush (v := 60) hx hb dX12_op_42 (by decide) ?_
    refine lv_icmp_ne (tgt := 65) hx hb dX12_op_44 (by decide) (fun c_133 => ?_) (fun c_133 => ?_)
    · skip
      rw [← Int32.toInt_inj, ti_60] at c_133
      refine lv_iload_n hx hb dX12_op_65 rfl (lv_at hl 2 rfl) ?_
      refine lv_bipush (v := 47) hx hb dX12_op_66 (by decide) ?_
      refine lv_icmp_ne (tgt := 87) hx hb dX12_op_68 (by decide) (fun c_134 => ?_) (fun c_134 => ?_)
      · skip
        rw [← Int32.toInt_inj, ti_47] at c_134
        refine lv_iconst (v := (-1)) hx hb dX12_op_87 (by decide) ?_
        exact W.iret (v := (-1)) hx hb hr (fun t ht hW => ⟨⟨(-1), f_59, rfl, ⟨hG, (by decide), hfr0, hrA12, hfA12, (by intro w6 z6 e6 d6; rw [hfo_1] at e6; rw [hfo_65] at d6; obtain rfl := Option.some.inj e6; obtain rfl := Option.some.inj d6; (try rw [ti_m1]) <;> omega)⟩, by rw [ht]; exact hP, va_K.moved hW.alike hK, pl_in hD⟩, hS.F ht⟩) hS.2.2 dX12_op_88
      · skip
        rw [← Int32.toInt_inj, ti_47] at c_134
        refine lv_iload_n hx hb dX12_op_71 rfl (lv_at hl 1 rfl) ?_
        refine lv_bipush (v := 60) hx hb dX12_op_72 (by decide) ?_
        refine lv_icmp_ne (tgt := 87) hx hb dX12_op_74 (by decide) (fun c_135 => ?_) (fun c_135 => ?_)
        · skip
          rw [← Int32.toInt_inj, ti_60] at c_135
          refine lv_iconst (v := (-1)) hx hb dX12_op_87 (by decide) ?_
          exact W.iret (v := (-1)) hx hb hr (fun t ht hW => ⟨⟨(-1), f_59, rfl, ⟨hG, (by decide), hfr0, hrA12, hfA12, (by intro w6 z6 e6 d6; rw [hfo_1] at e6; rw [hfo_65] at d6; obtain rfl := Option.some.inj e6; obtain rfl := Option.some.inj d6; (try rw [ti_m1]) <;> omega)⟩, by rw [ht]; exact hP, va_K.moved hW.alike hK, pl_in hD⟩, hS.F ht⟩) hS.2.2 dX12_op_88
        · skip
          rw [← Int32.toInt_inj, ti_60] at c_135
          refine lv_iload_n hx hb dX12_op_77 rfl (lv_at hl 0 rfl) ?_
          refine lv_bipush (v := 61) hx hb dX12_op_78 (by decide) ?_
          refine lv_icmp_ne (tgt := 87) hx hb dX12_op_80 (by decide) (fun c_136 => ?_) (fun c_136 => ?_)
          · skip
            rw [← Int32.toInt_inj, ti_61] at c_136
            refine lv_iconst (v := (-1)) hx hb dX12_op_87 (by decide) ?_
            exact W.iret (v := (-1)) hx hb hr (fun t ht hW => ⟨⟨(-1), f_59, rfl, ⟨hG, (by decide), hfr0, hrA12, hfA12, (by intro w6 z6 e6 d6; rw [hfo_1] at e6; rw [hfo_65] at d6; obtain rfl := Option.some.inj e6; obtain rfl := Option.some.inj d6; (try rw [ti_m1]) <;> omega)⟩, by rw [ht]; exact hP, va_K.moved hW.alike hK, pl_in hD⟩, hS.F ht⟩) hS.2.2 dX12_op_88
          · skip
            rw [← Int32.toInt_inj, ti_61] at c_136
            refine lv_iconst (v := 3) hx hb dX12_op_83 (by decide) ?_
            refine lv_goto (tgt := 88) hx hb dX12_op_84 (by decide) ?_
            exact W.iret (v := 3) hx hb hr (fun t ht hW => ⟨⟨3, f_59, rfl, ⟨hG, (by decide), hfr0, hrA12, hfA12, (by intro w6 z6 e6 d6; rw [hfo_1] at e6; rw [hfo_65] at d6; obtain rfl := Option.some.inj e6; obtain rfl := Option.some.inj d6; (try rw [ti_3]) <;> omega)⟩, by rw [ht]; exact hP, va_K.moved hW.alike hK, pl_in hD⟩, hS.F ht⟩) hS.2.2 dX12_op_88
    · skip
      rw [← Int32.toInt_inj, ti_60] at c_133
      refine lv_iload_n hx hb dX12_op_47 rfl (lv_at hl 1 rfl) ?_
      refine lv_bipush (v := 61) hx hb dX12_op_48 (by decide) ?_
      refine lv_icmp_ne (tgt := 65) hx hb dX12_op_50 (by decide) (fun c_137 => ?_) (fun c_137 => ?_)
      · skip
        rw [← Int32.toInt_inj, ti_61] at c_137
        refine lv_iload_n hx hb dX12_op_65 rfl (lv_at hl 2 rfl) ?_
        refine lv_bipush (v := 47) hx hb dX12_op_66 (by decide) ?_
        refine lv_icmp_ne (tgt := 87) hx hb dX12_op_68 (by decide) (fun c_138 => ?_) (fun c_138 => ?_)
        · skip
          rw [← Int32.toInt_inj, ti_47] at c_138
          refine lv_iconst (v := (-1)) hx hb dX12_op_87 (by decide) ?_
          exact W.iret (v := (-1)) hx hb hr (fun t ht hW => ⟨⟨(-1), f_59, rfl, ⟨hG, (by decide), hfr0, hrA12, hfA12, (by intro w6 z6 e6 d6; rw [hfo_1] at e6; rw [hfo_65] at d6; obtain rfl := Option.some.inj e6; obtain rfl := Option.some.inj d6; (try rw [ti_m1]) <;> omega)⟩, by rw [ht]; exact hP, va_K.moved hW.alike hK, pl_in hD⟩, hS.F ht⟩) hS.2.2 dX12_op_88
        · skip
          rw [← Int32.toInt_inj, ti_47] at c_138
          exfalso
          omega
      · skip
        rw [← Int32.toInt_inj, ti_61] at c_137
        refine lv_iload_n hx hb dX12_op_53 rfl (lv_at hl 0 rfl) ?_
        refine lv_bipush (v := 62) hx hb dX12_op_54 (by decide) ?_
        refine lv_icmp_ne (tgt := 63) hx hb dX12_op_56 (by decide) (fun c_139 => ?_) (fun c_139 => ?_)
        · skip
          rw [← Int32.toInt_inj, ti_62] at c_139
          refine lv_iconst (v := 1) hx hb dX12_op_63 (by decide) ?_
          exact W.iret (v := 1) hx hb hr (fun t ht hW => ⟨⟨1, f_59, rfl, ⟨hG, (by decide), hfr0, hrA12, hfA12, (by intro w6 z6 e6 d6; rw [hfo_1] at e6; rw [hfo_65] at d6; obtain rfl := Option.some.inj e6; obtain rfl := Option.some.inj d6; (try rw [ti_1]) <;> omega)⟩, by rw [ht]; exact hP, va_K.moved hW.alike hK, pl_in hD⟩, hS.F ht⟩) hS.2.2 dX12_op_64
        · skip
          rw [← Int32.toInt_inj, ti_62] at c_139
          refine lv_iconst (v := 2) hx hb dX12_op_59 (by decide) ?_
          refine lv_goto (tgt := 64) hx hb dX12_op_60 (by decide) ?_
          exact W.iret (v := 2) hx hb hr (fun t ht hW => ⟨⟨2, f_59, rfl, ⟨hG, (by decide), hfr0, hrA12, hfA12, (by intro w6 z6 e6 d6; rw [hfo_1] at e6; rw [hfo_65] at d6; obtain rfl := Option.some.inj e6; obtain rfl := Option.some.inj d6; (try rw [ti_2]) <;> omega)⟩, by rw [ht]; exact hP, va_K.moved hW.alike hK, pl_in hD⟩, hS.F ht⟩) hS.2.2 dX12_op_64
  · skip
    rw [← Int32.toInt_inj, ti_61] at c_132
    refine lv_iload_n hx hb dX12_op_33 rfl (lv_at hl 1 rfl) ?_
    refine lv_bipush (v := 62) hx hb dX12_op_34 (by decide) ?_
    refine lv_icmp_ne (tgt := 41) hx hb dX12_op_36 (by decide) (fun c_140 => ?_) (fun c_140 => ?_)
    · skip
      rw [← Int32.toInt_inj, ti_62] at c_140
      refine lv_iload_n hx hb dX12_op_41 rfl (lv_at hl 2 rfl) ?_
      refine lv_bipush (v := 60) hx hb dX12_op_42 (by decide) ?_
      refine lv_icmp_ne (tgt := 65) hx hb dX12_op_44 (by decide) (fun c_141 => ?_) (fun c_141 => ?_)
      · skip
        rw [← Int32.toInt_inj, ti_60] at c_141
        refine lv_iload_n hx hb dX12_op_65 rfl (lv_at hl 2 rfl) ?_
        refine lv_bipush (v := 47) hx hb dX12_op_66 (by decide) ?_
        refine lv_icmp_ne (tgt := 87) hx hb dX12_op_68 (by decide) (fun c_142 => ?_) (fun c_142 => ?_)
        · skip
          rw [← Int32.toInt_inj, ti_47] at c_142
          refine lv_iconst (v := (-1)) hx hb dX12_op_87 (by decide) ?_
          exact W.iret (v := (-1)) hx hb hr (fun t ht hW => ⟨⟨(-1), f_59, rfl, ⟨hG, (by decide), hfr0, hrA12, hfA12, (by intro w6 z6 e6 d6; rw [hfo_1] at e6; rw [hfo_65] at d6; obtain rfl := Option.some.inj e6; obtain rfl := Option.some.inj d6; (try rw [ti_m1]) <;> omega)⟩, by rw [ht]; exact hP, va_K.moved hW.alike hK, pl_in hD⟩, hS.F ht⟩) hS.2.2 dX12_op_88
        · skip
          rw [← Int32.toInt_inj, ti_47] at c_142
          exfalso
          omega
      · skip
        rw [← Int32.toInt_inj, ti_60] at c_141
        exfalso
        omega
    · skip
      rw [← Int32.toInt_inj, ti_62] at c_140
      refine lv_iconst (v := 0) hx hb dX12_op_39 (by decide) ?_
      exact W.iret (v := 0) hx hb hr (fun t ht hW => ⟨⟨0, f_59, rfl, ⟨hG, (by decide), hfr0, hrA12, hfA12, (by intro w6 z6 e6 d6; rw [hfo_1] at e6; rw [hfo_65] at d6; obtain rfl := Option.some.inj e6; obtain rfl := Option.some.inj d6; (try rw [ti_0]) <;> omega)⟩, by rw [ht]; exact hP, va_K.moved hW.alike hK, pl_in hD⟩, hS.F ht⟩) hS.2.2 dX12_op_40
set_option maxHeartbeats 8000000 in
set_option maxRecDepth 100000 in
theorem s_X12_takesX_k12 (l : Launch) (D : va_G) (cI cL cZ cR cG cH : ClassId) (Z : zT) (kd : Nat → Nat) (L : List Nat) (f : Nat → va_E) (hG : GI (okc cI cL cZ cR cG cH L kd) kd L f) (o0 : Nat) (mo0 : o0 ∈ L) (ko0 : kd o0 = 12) : mPI l D cI cL cZ cR cG cH Z yX12_takesX cX12_takesX 3 (some .boolean) 3 61 [.ref o0] L f (fun (r : Int32) (f9 : Nat → va_E) => GI (okc cI cL cZ cR cG cH L kd) kd L f9 ∧ (0 ≤ r.toInt ∧ r.toInt ≤ 1) ∧ (∀ b, kd b ≠ 12 → f9 b = f b) ∧ (∀ b, kd b = 12 → ∀ j, fldR (f9 b) j = fldR (f b) j) ∧ (∀ b, kd b = 12 → ∀ j, j ≠ 6 → j ≠ 7 → j ≠ 8 → j ≠ 14 → fldI (f9 b) j = fldI (f b) j) ∧ (∀ (w6 z6 : Int32), fldI (f o0) 6 = some w6 → fldI (f9 o0) 6 = some z6 → w6.toInt ≤ z6.toInt)) := by
  obtain ⟨dC, dI⟩ := D
  refine Met.ofW (cc := cX12_takesX) (maxL := 3) (ret := (some .boolean)) (by decide) rfl ?_
  intro p e s m args below meth c s₁ B hml hv
  obtain ⟨rfl, hP, hK, hD0, hN, hZ⟩ := hv
  have hx := B.exec
  have hb := B.bytes
  have hr := B.returns
  have hU : ∀ w ∈ wsU, w.before _ s = true := fun w h => atoms_spec (ws := wU yX12_takesX cX12_takesX 3 (some .boolean)) B.pre w (List.mem_cons_of_mem _ h)
  have hown : s.vm.findClass RX12 = some m.cls := findClass_of_methodNamed B.named
  have hlocks := B.notSynchronized
  have hD := pl_in hD0
  have hS : va_S (fun q => q ∈ L) s.heap s.heap [] := va_S.rf
  have hl := lv_entry ([.ref o0]) (n := 3) (Nat.le_of_ble_eq_true rfl)
  rw [lg_entry_eq]
  generalize (lg_sl ([.ref o0]) ++ List.replicate (3 - (lg_sl ([.ref o0])).length) Slot.unset).toArray = ls at hl ⊢
  have hl : lv_has ls 3 [(0, .ref o0)] := hl
  have hfr0 : ∀ b, kd b ≠ 12 → f b = f b := fun _ _ => rfl
  have hrA12 : ∀ b, kd b = 12 → ∀ j, fldR (f b) j = fldR (f b) j := fun _ _ _ => rfl
  have hfA12 : ∀ b, kd b = 12 → ∀ j, j ≠ 6 → j ≠ 7 → j ≠ 8 → j ≠ 14 → fldI (f b) j = fldI (f b) j := fun _ _ _ _ _ _ _ => rfl
  obtain ⟨a_2, a_3, a_4, v_5, a_6, v_7, v_8, v_9, v_10, v_11, v_12, v_13, v_14, v_15, v_16, a_17, a_18, a_19, a_20, a_21, a_22, a_23, a_24, v_25, v_26, v_27, v_28, v_29, a_30, v_31, a_32, a_33, v_34, v_35, a_36, v_37, a_38, a_39, v_40, v_41, a_42, a_43, a_44, v_45, a_46, a_47, a_48, a_49, a_50, a_51, a_52, a_53, a_54, v_55, v_56, a_57, hfo_1, ⟨ma_2, ka_2⟩, ⟨ma_3, ka_3⟩, ⟨ma_4, ka_4⟩, bv_5, ⟨ma_6, ka_6⟩, bv_7, bv_8, bv_13, bv_14, bv_15, ⟨ma_17, ka_17⟩, ⟨ma_18, ka_18⟩, ⟨ma_19, ka_19⟩, ⟨ma_20, ka_20⟩, ⟨ma_21, ka_21⟩, ⟨ma_22, ka_22⟩, ⟨ma_23, ka_23⟩, ⟨ma_24, ka_24⟩, bv_25, bv_27, bv_29, ⟨ma_30, ka_30⟩, bv_31, ⟨ma_32, ka_32⟩, ⟨ma_33, ka_33⟩, bv_34, ⟨ma_36, ka_36⟩, bv_37, ⟨ma_38, ka_38⟩, ⟨ma_39, ka_39⟩, bv_40, ⟨ma_42, ka_42⟩, ⟨ma_43, ka_43⟩, ⟨ma_44, ka_44⟩, bv_45, ⟨ma_46, ka_46⟩, ⟨ma_47, ka_47⟩, ⟨ma_48, ka_48⟩, ⟨ma_49, ka_49⟩, ⟨ma_50, ka_50⟩, ⟨ma_51, ka_51⟩, ⟨ma_52, ka_52⟩, ⟨ma_53, ka_53⟩, ⟨ma_54, ka_54⟩, bv_55, ⟨ma_57, ka_57⟩⟩ := un_12 (hG _ mo0) ko0
  have bv_9 : ((-2147483648) ≤ v_9.toInt ∧ v_9.toInt ≤ 2147483647) := ⟨i32_lo _, i32_hi _⟩
  have bv_10 : ((-2147483648) ≤ v_10.toInt ∧ v_10.toInt ≤ 2147483647) := ⟨i32_lo _, i32_hi _⟩
  have bv_11 : ((-2147483648) ≤ v_11.toInt ∧ v_11.toInt ≤ 2147483647) := ⟨i32_lo _, i32_hi _⟩
  have bv_12 : ((-2147483648) ≤ v_12.toInt ∧ v_12.toInt ≤ 2147483647) := ⟨i32_lo _, i32_hi _⟩
  have bv_16 : ((-2147483648) ≤ v_16.toInt ∧ v_16.toInt ≤ 2147483647) := ⟨i32_lo _, i32_hi _⟩
  have bv_26 : ((-2147483648) ≤ v_26.toInt ∧ v_26.toInt ≤ 2147483647) := ⟨i32_lo _, i32_hi _⟩
  have bv_28 : ((-2147483648) ≤ v_28.toInt ∧ v_28.toInt ≤ 2147483647) := ⟨i32_lo _, i32_hi _⟩
  have bv_35 : ((-2147483648) ≤ v_35.toInt ∧ v_35.toInt ≤ 2147483647) := ⟨i32_lo _, i32_hi _⟩
  have bv_41 : ((-2147483648) ≤ v_41.toInt ∧ v_41.toInt ≤ 2147483647) := ⟨i32_lo _, i32_hi _⟩
  have bv_56 : ((-2147483648) ≤ v_56.toInt ∧ v_56.toInt ≤ 2147483647) := ⟨i32_lo _, i32_hi _⟩
  refine lv_aload_n hx hb dX12_takesX_0 rfl (lv_at hl 0 rfl) ?_
  refine tk_ViP (As := []) (rest := []) (n := 0) hx hb hml hown hU hN hZ (s_X12_sign_k12 l (dC, dI) cI cL cZ cR cG cH Z kd L f hG o0 mo0 ko0) wd_573 wd_574 wd_575 wd_5 wd_576 (by decide +kernel) ⟨Nat.le_of_ble_eq_true rfl, Nat.le_of_ble_eq_true rfl⟩ hK hP hD hS mo0 hfo_1 12 rfl rfl rfl hl.1 rfl (Nat.le_of_ble_eq_true rfl) dX12_takesX_1 ⟨Nat.le_of_ble_eq_true rfl, Nat.le_of_ble_eq_true rfl⟩ (fun x_58 f_59 H locs hw hP hD hS => ?_)
  obtain ⟨hG, bx_58, hkc_60, hra_61, hfa_62, hpost_63⟩ := hw
  have hfr0 : ∀ b, kd b ≠ 12 → f_59 b = f b := fun b q12 => (hkc_60 b q12).trans (hfr0 b q12)
  have hrA12 : ∀ b, kd b = 12 → ∀ j, fldR (f_59 b) j = fldR (f b) j := fun b kb j => (hra_61 b kb j).trans (hrA12 b kb j)
  have hfA12 : ∀ b, kd b = 12 → ∀ j, j ≠ 6 → j ≠ 7 → j ≠ 8 → j ≠ 14 → fldI (f_59 b) j = fldI (f b) j := fun b kb j n6 n7 n8 n14 => (hfa_62 b kb j n6).trans (hfA12 b kb j n6 n7 n8 n14)
  obtain ⟨a_66, a_67, a_68, v_69, a_70, v_71, v_72, v_73, v_74, v_75, v_76, v_77, v_78, v_79, v_80, a_81, a_82, a_83, a_84, a_85, a_86, a_87, a_88, v_89, v_90, v_91, v_92, v_93, a_94, v_95, a_96, a_97, v_98, v_99, a_100, v_101, a_102, a_103, v_104, v_105, a_106, a_107, a_108, v_109, a_110, a_111, a_112, a_113, a_114, a_115, a_116, a_117, a_118, v_119, v_120, a_121, hfo_65, ⟨ma_66, ka_66⟩, ⟨ma_67, ka_67⟩, ⟨ma_68, ka_68⟩, bv_69, ⟨ma_70, ka_70⟩, bv_71, bv_72, bv_77, bv_78, bv_79, ⟨ma_81, ka_81⟩, ⟨ma_82, ka_82⟩, ⟨ma_83, ka_83⟩, ⟨ma_84, ka_84⟩, ⟨ma_85, ka_85⟩, ⟨ma_86, ka_86⟩, ⟨ma_87, ka_87⟩, ⟨ma_88, ka_88⟩, bv_89, bv_91, bv_93, ⟨ma_94, ka_94⟩, bv_95, ⟨ma_96, ka_96⟩, ⟨ma_97, ka_97⟩, bv_98, ⟨ma_100, ka_100⟩, bv_101, ⟨ma_102, ka_102⟩, ⟨ma_103, ka_103⟩, bv_104, ⟨ma_106, ka_106⟩, ⟨ma_107, ka_107⟩, ⟨ma_108, ka_108⟩, bv_109, ⟨ma_110, ka_110⟩, ⟨ma_111, ka_111⟩, ⟨ma_112, ka_112⟩, ⟨ma_113, ka_113⟩, ⟨ma_114, ka_114⟩, ⟨ma_115, ka_115⟩, ⟨ma_116, ka_116⟩, ⟨ma_117, ka_117⟩, ⟨ma_118, ka_118⟩, bv_119, ⟨ma_121, ka_121⟩⟩ := un_12 (hG _ mo0) ko0
  have bv_73 : ((-2147483648) ≤ v_73.toInt ∧ v_73.toInt ≤ 2147483647) := ⟨i32_lo _, i32_hi _⟩
  have bv_74 : ((-2147483648) ≤ v_74.toInt ∧ v_74.toInt ≤ 2147483647) := ⟨i32_lo _, i32_hi _⟩
  have bv_75 : ((-2147483648) ≤ v_75.toInt ∧ v_75.toInt ≤ 2147483647) := ⟨i32_lo _, i32_hi _⟩
  have bv_76 : ((-2147483648) ≤ v_76.toInt ∧ v_76.toInt ≤ 2147483647) := ⟨i32_lo _, i32_hi _⟩
  have bv_80 : ((-2147483648) ≤ v_80.toInt ∧ v_80.toInt ≤ 2147483647) := ⟨i32_lo _, i32_hi _⟩
  have bv_90 : ((-2147483648) ≤ v_90.toInt ∧ v_90.toInt ≤ 2147483647) := ⟨i32_lo _, i32_hi _⟩
  have bv_92 : ((-2147483648) ≤ v_92.toInt ∧ v_92.toInt ≤ 2147483647) := ⟨i32_lo _, i32_hi _⟩
  have bv_99 : ((-2147483648) ≤ v_99.toInt ∧ v_99.toInt ≤ 2147483647) := ⟨i32_lo _, i32_hi _⟩
  have bv_105 : ((-2147483648) ≤ v_105.toInt ∧ v_105.toInt ≤ 2147483647) := ⟨i32_lo _, i32_hi _⟩
  have bv_120 : ((-2147483648) ≤ v_120.toInt ∧ v_120.toInt ≤ 2147483647) := ⟨i32_lo _, i32_hi _⟩
  obtain ⟨rfl, rfl, rfl, rfl, rfl, rfl, rfl, rfl, rfl, rfl, rfl, rfl, rfl, rfl, rfl, rfl, rfl, rfl, rfl, rfl, rfl, rfl, rfl, rfl, rfl, rfl, rfl, rfl, rfl, rfl, rfl⟩ := re_12 hfo_1 hfo_65 (hrA12 o0 ko0)
  obtain rfl := ri_12_3 hfo_1 hfo_65 (hfA12 o0 ko0 3 (by decide) (by decide) (by decide) (by decide))
  obtain rfl := ri_12_5 hfo_1 hfo_65 (hfA12 o0 ko0 5 (by decide) (by decide) (by decide) (by decide))
  obtain rfl := ri_12_11 hfo_1 hfo_65 (hfA12 o0 ko0 11 (by decide) (by decide) (by decide) (by decide))
  obtain rfl := ri_12_12 hfo_1 hfo_65 (hfA12 o0 ko0 12 (by decide) (by decide) (by decide) (by decide))
  obtain rfl := ri_12_13 hfo_1 hfo_65 (hfA12 o0 ko0 13 (by decide) (by decide) (by decide) (by decide))
  obtain rfl := ri_12_23 hfo_1 hfo_65 (hfA12 o0 ko0 23 (by decide) (by decide) (by decide) (by decide))
  obtain rfl := ri_12_25 hfo_1 hfo_65 (hfA12 o0 ko0 25 (by decide) (by decide) (by decide) (by decide))
  obtain rfl := ri_12_27 hfo_1 hfo_65 (hfA12 o0 ko0 27 (by decide) (by decide) (by decide) (by decide))
  obtain rfl := ri_12_29 hfo_1 hfo_65 (hfA12 o0 ko0 29 (by decide) (by decide) (by decide) (by decide))
  obtain rfl := ri_12_32 hfo_1 hfo_65 (hfA12 o0 ko0 32 (by decide) (by decide) (by decide) (by decide))
  obtain rfl := ri_12_33 hfo_1 hfo_65 (hfA12 o0 ko0 33 (by decide) (by decide) (by decide) (by decide))
  obtain rfl := ri_12_35 hfo_1 hfo_65 (hfA12 o0 ko0 35 (by decide) (by decide) (by decide) (by decide))
  obtain rfl := ri_12_38 hfo_1 hfo_65 (hfA12 o0 ko0 38 (by decide) (by decide) (by decide) (by decide))
  obtain rfl := ri_12_43 hfo_1 hfo_65 (hfA12 o0 ko0 43 (by decide) (by decide) (by decide) (by decide))
  obtain rfl := ri_12_53 hfo_1 hfo_65 (hfA12 o0 ko0 53 (by decide) (by decide) (by decide) (by decide))
  obtain rfl := ri_12_14 hfo_1 hfo_65 (hfa_62 o0 ko0 14 (by decide))
  have hqhpost_63 := hpost_63 v_8 v_72 (by rw [hfo_1]; rfl) (by rw [hfo_65]; rfl)
  refine lv_istore_n (lv' := [(1, .int x_58), (0, .ref o0)]) hx hb dX12_takesX_4 rfl hl (by decide) rfl (fun ls hl => ?_)
  refine lv_iload_n hx hb dX12_takesX_5 rfl (lv_at hl 0 rfl) ?_
  refine lv_bipush (v := 63) hx hb dX12_takesX_6 (by decide) ?_
  refine lv_icmp_ne (tgt := 21) hx hb dX12_takesX_8 (by decide) (fun c_122 => ?_) (fun c_122 => ?_)
  · skip
    rw [← Int32.toInt_inj, ti_63] at c_122
    refine lv_iload_n hx hb dX12_takesX_21 rfl (lv_at hl 0 rfl) ?_
    refine lv_bipush (v := 48) hx hb dX12_takesX_22 (by decide) ?_
    refine lv_icmp_ne (tgt := 35) hx hb dX12_takesX_24 (by decide) (fun c_123 => ?_) (fun c_123 => ?_)
    · skip
      rw [← Int32.toInt_inj, ti_48] at c_123
      refine lv_iload_n hx hb dX12_takesX_35 rfl (lv_at hl 0 rfl) ?_
      refine lv_bipush (v := 65) hx hb dX12_takesX_36 (by decide) ?_
      refine lv_bipush (v := 70) hx hb dX12_takesX_38 (by decide) ?_
      refine tk_SiP (As := [.int x_58, .int 65, .int 70]) (rest := []) (n := 3) hx hb hml hown hU hN hZ (s_X12_isIn l (dC, dI) cI cL cZ cR cG cH Z kd L f_59 hG x_58 65 70) wd_227 wd_228 wd_5 wd_229 (by decide +kernel) ⟨Nat.le_of_ble_eq_true rfl, Nat.le_of_ble_eq_true rfl⟩ hK hP hD hS rfl hl.1 rfl (Nat.le_of_ble_eq_true rfl) dX12_takesX_40 ⟨Nat.le_of_ble_eq_true rfl, Nat.le_of_ble_eq_true rfl⟩ (fun x_124 f_125 H locs hw hP hD hS => ?_)
      obtain ⟨rfl, bx_124, relx_124⟩ := hw
      try rw [ti_65] at relx_124
      try rw [ti_70] at relx_124
      refine lv_if_eq (tgt := 79) hx hb dX12_takesX_43 (by decide) (fun c_127 => ?_) (fun c_127 => ?_)
      · skip
        rw [← Int32.toInt_inj, ti_0] at c_127
        refine lv_iload_n hx hb dX12_takesX_79 rfl (lv_at hl 0 rfl) ?_
        refine tk_SiP (As := [.int x_58]) (rest := []) (n := 1) hx hb hml hown hU hN hZ (s_X12_isSmall l (dC, dI) cI cL cZ cR cG cH Z kd L f_59 hG x_58) wd_589 wd_590 wd_5 wd_591 (by decide +kernel) ⟨Nat.le_of_ble_eq_true rfl, Nat.le_of_ble_eq_true rfl⟩ hK hP hD hS rfl hl.1 rfl (Nat.le_of_ble_eq_true rfl) dX12_takesX_80 ⟨Nat.le_of_ble_eq_true rfl, Nat.le_of_ble_eq_true rfl⟩ (fun x_128 f_129 H locs hw hP hD hS => ?_)
        obtain ⟨rfl, bx_128, relx_128⟩ := hw
        refine lv_if_eq (tgt := 119) hx hb dX12_takesX_83 (by decide) (fun c_131 => ?_) (fun c_131 => ?_)
        · skip
          rw [← Int32.toInt_inj, ti_0] at c_131
          refine lv_aload_n hx hb dX12_takesX_119 rfl (lv_at hl 1 rfl) ?_
          refine lv_iconst (v := 1) hx hb dX12_takesX_120 (by decide) ?_
          refine lv_aload_n hx hb dX12_takesX_121 rfl (lv_at hl 1 rfl) ?_
          refine tk_getP (D := (dC, dI)) (ci := 12) (v := .int v_72) (C := RX12) (T := TX12) (N := 56) hx hb hU inlX12 hown hK hP mo0 hfo_65 rfl 6 (by decide) (hU _ wd_566) (fun _ h9 => h9) rfl dX12_takesX_122 ?_
          refine tk_ViP (As := [.int 1, .int v_72]) (rest := []) (n := 2) hx hb hml hown hU hN hZ (s_X12_bad_k12 l (dC, dI) cI cL cZ cR cG cH Z kd L f_59 hG o0 mo0 ko0 1 v_72) wd_602 wd_603 wd_604 wd_5 wd_605 (by decide +kernel) ⟨Nat.le_of_ble_eq_true rfl, Nat.le_of_ble_eq_true rfl⟩ hK hP hD hS mo0 hfo_65 12 rfl rfl rfl hl.1 rfl (Nat.le_of_ble_eq_true rfl) dX12_takesX_125 ⟨Nat.le_of_ble_eq_true rfl, Nat.le_of_ble_eq_true rfl⟩ (fun x_132 f_133 H locs hw hP hD hS => ?_)
          obtain ⟨hG, bx_132, hkc_134, hra_135, hfa_136⟩ := hw
          have hfr0 : ∀ b, kd b ≠ 12 → f_133 b = f b := fun b q12 => (hkc_134 b q12).trans (hfr0 b q12)
          have hrA12 : ∀ b, kd b = 12 → ∀ j, fldR (f_133 b) j = fldR (f b) j := fun b kb j => (hra_135 b kb j).trans (hrA12 b kb j)
          have hfA12 : ∀ b, kd b = 12 → ∀ j, j ≠ 6 → j ≠ 7 → j ≠ 8 → j ≠ 14 → fldI (f_133 b) j = fldI (f b) j := fun b kb j n6 n7 n8 n14 => (hfa_136 b kb j n7 n8).trans (hfA12 b kb j n6 n7 n8 n14)
          obtain ⟨a_139, a_140, a_141, v_142, a_143, v_144, v_145, v_146, v_147, v_148, v_149, v_150, v_151, v_152, v_153, a_154, a_155, a_156, a_157, a_158, a_159, a_160, a_161, v_162, v_163, v_164, v_165, v_166, a_167, v_168, a_169, a_170, v_171, v_172, a_173, v_174, a_175, a_176, v_177, v_178, a_179, a_180, a_181, v_182, a_183, a_184, a_185, a_186, a_187, a_188, a_189, a_190, a_191, v_192, v_193, a_194, hfo_138, ⟨ma_139, ka_139⟩, ⟨ma_140, ka_140⟩, ⟨ma_141, ka_141⟩, bv_142, ⟨ma_143, ka_143⟩, bv_144, bv_145, bv_150, bv_151, bv_152, ⟨ma_154, ka_154⟩, ⟨ma_155, ka_155⟩, ⟨ma_156, ka_156⟩, ⟨ma_157, ka_157⟩, ⟨ma_158, ka_158⟩, ⟨ma_159, ka_159⟩, ⟨ma_160, ka_160⟩, ⟨ma_161, ka_161⟩, bv_162, bv_164, bv_166, ⟨ma_167, ka_167⟩, bv_168, ⟨ma_169, ka_169⟩, ⟨ma_170, ka_170⟩, bv_171, ⟨ma_173, ka_173⟩, bv_174, ⟨ma_175, ka_175⟩, ⟨ma_176, ka_176⟩, bv_177, ⟨ma_179, ka_179⟩, ⟨ma_180, ka_180⟩, ⟨ma_181, ka_181⟩, bv_182, ⟨ma_183, ka_183⟩, ⟨ma_184, ka_184⟩, ⟨ma_185, ka_185⟩, ⟨ma_186, ka_186⟩, ⟨ma_187, ka_187⟩, ⟨ma_188, ka_188⟩, ⟨ma_189, ka_189⟩, ⟨ma_190, ka_190⟩, ⟨ma_191, ka_191⟩, bv_192, ⟨ma_194, ka_194⟩⟩ := un_12 (hG _ mo0) ko0
          have bv_146 : ((-2147483648) ≤ v_146.toInt ∧ v_146.toInt ≤ 2147483647) := ⟨i32_lo _, i32_hi _⟩
          have bv_147 : ((-2147483648) ≤ v_147.toInt ∧ v_147.toInt ≤ 2147483647) := ⟨i32_lo _, i32_hi _⟩
          have bv_148 : ((-2147483648) ≤ v_148.toInt ∧ v_148.toInt ≤ 2147483647) := ⟨i32_lo _, i32_hi _⟩
          have bv_149 : ((-2147483648) ≤ v_149.toInt ∧ v_149.toInt ≤ 2147483647) := ⟨i32_lo _, i32_hi _⟩
          have bv_153 : ((-2147483648) ≤ v_153.toInt ∧ v_153.toInt ≤ 2147483647) := ⟨i32_lo _, i32_hi _⟩
          have bv_163 : ((-2147483648) ≤ v_163.toInt ∧ v_163.toInt ≤ 2147483647) := ⟨i32_lo _, i32_hi _⟩
          have bv_165 : ((-2147483648) ≤ v_165.toInt ∧ v_165.toInt ≤ 2147483647) := ⟨i32_lo _, i32_hi _⟩
          have bv_172 : ((-2147483648) ≤ v_172.toInt ∧ v_172.toInt ≤ 2147483647) := ⟨i32_lo _, i32_hi _⟩
          have bv_178 : ((-2147483648) ≤ v_178.toInt ∧ v_178.toInt ≤ 2147483647) := ⟨i32_lo _, i32_hi _⟩
          have bv_193 : ((-2147483648) ≤ v_193.toInt ∧ v_193.toInt ≤ 2147483647) := ⟨i32_lo _, i32_hi _⟩
          obtain ⟨rfl, rfl, rfl, rfl, rfl, rfl, rfl, rfl, rfl, rfl, rfl, rfl, rfl, rfl, rfl, rfl, rfl, rfl, rfl, rfl, rfl, rfl, rfl, rfl, rfl, rfl, rfl, rfl, rfl, rfl, rfl⟩ := re_12 hfo_1 hfo_138 (hrA12 o0 ko0)
          obtain rfl := ri_12_3 hfo_1 hfo_138 (hfA12 o0 ko0 3 (by decide) (by decide) (by decide) (by decide))
          obtain rfl := ri_12_5 hfo_1 hfo_138 (hfA12 o0 ko0 5 (by decide) (by decide) (by decide) (by decide))
          obtain rfl := ri_12_11 hfo_1 hfo_138 (hfA12 o0 ko0 11 (by decide) (by decide) (by decide) (by decide))
          obtain rfl := ri_12_12 hfo_1 hfo_138 (hfA12 o0 ko0 12 (by decide) (by decide) (by decide) (by decide))
          obtain rfl := ri_12_13 hfo_1 hfo_138 (hfA12 o0 ko0 13 (by decide) (by decide) (by decide) (by decide))
          obtain rfl := ri_12_23 hfo_1 hfo_138 (hfA12 o0 ko0 23 (by decide) (by decide) (by decide) (by decide))
          obtain rfl := ri_12_25 hfo_1 hfo_138 (hfA12 o0 ko0 25 (by decide) (by decide) (by decide) (by decide))
          obtain rfl := ri_12_27 hfo_1 hfo_138 (hfA12 o0 ko0 27 (by decide) (by decide) (by decide) (by decide))
          obtain rfl := ri_12_29 hfo_1 hfo_138 (hfA12 o0 ko0 29 (by decide) (by decide) (by decide) (by decide))
          obtain rfl := ri_12_32 hfo_1 hfo_138 (hfA12 o0 ko0 32 (by decide) (by decide) (by decide) (by decide))
          obtain rfl := ri_12_33 hfo_1 hfo_138 (hfA12 o0 ko0 33 (by decide) (by decide) (by decide) (by decide))
          obtain rfl := ri_12_35 hfo_1 hfo_138 (hfA12 o0 ko0 35 (by decide) (by decide) (by decide) (by decide))
          obtain rfl := ri_12_38 hfo_1 hfo_138 (hfA12 o0 ko0 38 (by decide) (by decide) (by decide) (by decide))
          obtain rfl := ri_12_43 hfo_1 hfo_138 (hfA12 o0 ko0 43 (by decide) (by decide) (by decide) (by decide))
          obtain rfl := ri_12_53 hfo_1 hfo_138 (hfA12 o0 ko0 53 (by decide) (by decide) (by decide) (by decide))
          obtain rfl := ri_12_6 hfo_65 hfo_138 (hfa_136 o0 ko0 6 (by decide) (by decide))
          obtain rfl := ri_12_14 hfo_65 hfo_138 (hfa_136 o0 ko0 14 (by decide) (by decide))
          exact W.zret (v := x_132) (ty := .boolean) hx hb hr (zb_n (by constructor <;> omega)) (fun t ht hW => ⟨⟨x_132, f_133, rfl, ⟨hG, (by constructor <;> omega), hfr0, hrA12, hfA12, (by intro w6 z6 e6 d6; rw [hfo_1] at e6; rw [hfo_138] at d6; obtain rfl := Option.some.inj e6; obtain rfl := Option.some.inj d6; omega)⟩, by rw [ht]; exact hP, va_K.moved hW.alike hK, pl_in hD⟩, hS.F ht⟩) hS.2.2 dX12_takesX_128
        · skip
          rw [← Int32.toInt_inj, ti_0] at c_131
          refine lv_aload_n hx hb dX12_takesX_86 rfl (lv_at hl 1 rfl) ?_
          refine tk_getP (D := (dC, dI)) (ci := 12) (v := .ref a_3) (C := RX12) (T := TX12) (N := 56) hx hb hU inlX12 hown hK hP mo0 hfo_65 rfl 1 (by decide) (hU _ wd_170) (fun _ h9 => h9) rfl dX12_takesX_87 ?_
          refine lv_iload_n hx hb dX12_takesX_90 rfl (lv_at hl 0 rfl) ?_
          refine tk_SiP (As := [.ref a_3, .int x_58]) (rest := []) (n := 2) hx hb hml hown hU hN hZ (s_X12_letterIn_a576 l (dC, dI) cI cL cZ cR cG cH Z kd L f_59 hG a_3 ma_3 ka_3 x_58) wd_606 wd_607 wd_5 wd_608 (by decide +kernel) ⟨Nat.le_of_ble_eq_true rfl, Nat.le_of_ble_eq_true rfl⟩ hK hP hD hS rfl hl.1 rfl (Nat.le_of_ble_eq_true rfl) dX12_takesX_91 ⟨Nat.le_of_ble_eq_true rfl, Nat.le_of_ble_eq_true rfl⟩ (fun x_195 f_196 H locs hw hP hD hS => ?_)
          obtain ⟨rfl, bx_195, hxp_197⟩ := hw
          obtain ⟨g_200, hfo_199, hbg_200⟩ := un_576 (hG _ ma_3) ka_3
          have hlix_195 := hxp_197 g_200 hfo_199
          refine lv_istore_n (lv' := [(2, .int x_195), (1, .int x_58), (0, .ref o0)]) hx hb dX12_takesX_94 rfl hl (by decide) rfl (fun ls hl => ?_)
          refine lv_iload_n hx hb dX12_takesX_95 rfl (lv_at hl 0 rfl) ?_
          refine lv_if_ne (tgt := 109) hx hb dX12_takesX_96 (by decide) (fun c_201 => ?_) (fun c_201 => ?_)
          · skip
            rw [← Int32.toInt_inj, ti_0] at c_201
            refine lv_aload_n hx hb dX12_takesX_109 rfl (lv_at hl 2 rfl) ?_
            refine lv_iconst (v := 1) hx hb dX12_takesX_110 (by decide) ?_
            refine lv_iload_n hx hb dX12_takesX_111 rfl (lv_at hl 0 rfl) ?_
            refine lv_ishl hx hb dX12_takesX_112 ?_
            refine lv_topi (fun x_202 ex_202 => ?_)
            have bx_202 : (1 ≤ x_202.toInt ∧ x_202.toInt ≤ 256) := by rw [ex_202]; exact sh_8 (by constructor <;> omega)
            refine tk_putP (D := (dC, dI)) (ci := 12) (v := .int x_202) (ty := .int) (C := RX12) (T := TX12) (N := 56) hx hb hU inlX12 tyX12 tyX12_ok nmX12 hown hK hP hD hS mo0 hfo_65 rfl 14 (by decide) (hU _ wd_654) (fun _ h9 => h9) rfl (by decide +kernel) rfl rfl (Nat.le_of_ble_eq_true rfl) dX12_takesX_113 (fun H locs hP hD hS => ?_)
            obtain ⟨f_204, ef_204⟩ : ∃ y : Nat → va_E, y = va_up f_59 o0 (.inr (12, [.ref a_2, .ref a_3, .ref a_4, .int v_5, .ref a_6, .int v_7, .int v_72, .int v_73, .int v_74, .int v_75, .int v_76, .int v_13, .int v_14, .int v_15, .int x_202, .ref a_17, .ref a_18, .ref a_19, .ref a_20, .ref a_21, .ref a_22, .ref a_23, .ref a_24, .int v_25, .int v_90, .int v_27, .int v_92, .int v_29, .ref a_30, .int v_31, .ref a_32, .ref a_33, .int v_34, .int v_35, .ref a_36, .int v_37, .ref a_38, .ref a_39, .int v_40, .int v_105, .ref a_42, .ref a_43, .ref a_44, .int v_45, .ref a_46, .ref a_47, .ref a_48, .ref a_49, .ref a_50, .ref a_51, .ref a_52, .ref a_53, .ref a_54, .int v_55, .int v_120, .ref a_57])) := ⟨_, rfl⟩
            have hP : va_P (dC, dI) vwCl (va_pl L f_204) H := by rw [ef_204]; exact hP
            have hD : va_D (fun q => q ∈ L) (va_pl L f_204) := by rw [ef_204]; exact hD
            have hG : GI (okc cI cL cZ cR cG cH L kd) kd L f_204 := by rw [ef_204]; exact hG.set o0 (mk_12 ko0 ⟨a_2, a_3, a_4, v_5, a_6, v_7, v_72, v_73, v_74, v_75, v_76, v_13, v_14, v_15, x_202, a_17, a_18, a_19, a_20, a_21, a_22, a_23, a_24, v_25, v_90, v_27, v_92, v_29, a_30, v_31, a_32, a_33, v_34, v_35, a_36, v_37, a_38, a_39, v_40, v_105, a_42, a_43, a_44, v_45, a_46, a_47, a_48, a_49, a_50, a_51, a_52, a_53, a_54, v_55, v_120, a_57, rfl, ⟨ma_2, ka_2⟩, ⟨ma_3, ka_3⟩, ⟨ma_4, ka_4⟩, (by constructor <;> omega), ⟨ma_6, ka_6⟩, (by constructor <;> omega), (by constructor <;> omega), (by constructor <;> omega), (by constructor <;> omega), (by constructor <;> omega), ⟨ma_17, ka_17⟩, ⟨ma_18, ka_18⟩, ⟨ma_19, ka_19⟩, ⟨ma_20, ka_20⟩, ⟨ma_21, ka_21⟩, ⟨ma_22, ka_22⟩, ⟨ma_23, ka_23⟩, ⟨ma_24, ka_24⟩, (by constructor <;> omega), (by constructor <;> omega), (by constructor <;> omega), ⟨ma_30, ka_30⟩, (by constructor <;> omega), ⟨ma_32, ka_32⟩, ⟨ma_33, ka_33⟩, (by constructor <;> omega), ⟨ma_36, ka_36⟩, (by constructor <;> omega), ⟨ma_38, ka_38⟩, ⟨ma_39, ka_39⟩, (by constructor <;> omega), ⟨ma_42, ka_42⟩, ⟨ma_43, ka_43⟩, ⟨ma_44, ka_44⟩, (by constructor <;> omega), ⟨ma_46, ka_46⟩, ⟨ma_47, ka_47⟩, ⟨ma_48, ka_48⟩, ⟨ma_49, ka_49⟩, ⟨ma_50, ka_50⟩, ⟨ma_51, ka_51⟩, ⟨ma_52, ka_52⟩, ⟨ma_53, ka_53⟩, ⟨ma_54, ka_54⟩, (by constructor <;> omega), ⟨ma_57, ka_57⟩⟩)
            have hfo_205 : f_204 a_3 = .inl (cI, 1560, .inl g_200) := by rw [ef_204, up_ne (kd_ne ko0 ka_3 (by decide))]; exact hfo_199
            have hfr0 : ∀ b, kd b ≠ 12 → f_204 b = f b := fun b q12 => (congrFun ef_204 b).trans ((up_ne (fun e9 => q12 (by rw [e9]; exact ko0))).trans (hfr0 b q12))
            have hrA12 : ∀ b, kd b = 12 → ∀ j, fldR (f_204 b) j = fldR (f b) j := fun b kb j => ((congrArg (fun x => fldR x j) (congrFun ef_204 b)).trans (fra_up (fun j => by rw [hfo_65]; exact fr_set (k := 14) rfl rfl j) j b)).trans (hrA12 b kb j)
            have hfA12 : ∀ b, kd b = 12 → ∀ j, j ≠ 6 → j ≠ 7 → j ≠ 8 → j ≠ 14 → fldI (f_204 b) j = fldI (f b) j := fun b kb j n6 n7 n8 n14 => ((congrArg (fun x => fldI x j) (congrFun ef_204 b)).trans (fia_up (fun h9 => by rw [hfo_65]; exact fi_set (k := 14) rfl h9) n14 b)).trans (hfA12 b kb j n6 n7 n8 n14)
            have hfo_206 : f_204 o0 = .inr (12, [.ref a_2, .ref a_3, .ref a_4, .int v_5, .ref a_6, .int v_7, .int v_72, .int v_73, .int v_74, .int v_75, .int v_76, .int v_13, .int v_14, .int v_15, .int x_202, .ref a_17, .ref a_18, .ref a_19, .ref a_20, .ref a_21, .ref a_22, .ref a_23, .ref a_24, .int v_25, .int v_90, .int v_27, .int v_92, .int v_29, .ref a_30, .int v_31, .ref a_32, .ref a_33, .int v_34, .int v_35, .ref a_36, .int v_37, .ref a_38, .ref a_39, .int v_40, .int v_105, .ref a_42, .ref a_43, .ref a_44, .int v_45, .ref a_46, .ref a_47, .ref a_48, .ref a_49, .ref a_50, .ref a_51, .ref a_52, .ref a_53, .ref a_54, .int v_55, .int v_120, .ref a_57]) := by rw [ef_204]; exact up_self
            refine lv_goto (tgt := 129) hx hb dX12_takesX_116 (by decide) ?_
            have hclc_207 : (0 ≤ v_72.toInt ∧ v_72.toInt ≤ 599) := by constructor <;> omega
            refine lv_aload_n hx hb dX12_takesX_129 rfl (lv_at hl 2 rfl) ?_
            refine lv_dup hx hb dX12_takesX_130 rfl ?_
            refine tk_getP (D := (dC, dI)) (ci := 12) (v := .int v_72) (C := RX12) (T := TX12) (N := 56) hx hb hU inlX12 hown hK hP mo0 hfo_206 rfl 6 (by decide) (hU _ wd_566) (fun _ h9 => h9) rfl dX12_takesX_131 ?_
            refine lv_iconst (v := 1) hx hb dX12_takesX_134 (by decide) ?_
            refine lv_iadd hx hb dX12_takesX_135 ?_
            refine lv_topi (fun x_208 ex_208 => ?_)
            have hx_208 : x_208.toInt = v_72.toInt + 1 := by rw [ex_208, ad_I (by rw [ti_1]; omega) (by rw [ti_1]; omega), ti_1]
            have bx_208 : (1 ≤ x_208.toInt ∧ x_208.toInt ≤ 600) := by constructor <;> omega
            refine tk_putP (D := (dC, dI)) (ci := 12) (v := .int x_208) (ty := .int) (C := RX12) (T := TX12) (N := 56) hx hb hU inlX12 tyX12 tyX12_ok nmX12 hown hK hP hD hS mo0 hfo_206 rfl 6 (by decide) (hU _ wd_566) (fun _ h9 => h9) rfl (by decide +kernel) rfl rfl (Nat.le_of_ble_eq_true rfl) dX12_takesX_136 (fun H locs hP hD hS => ?_)
            obtain ⟨f_210, ef_210⟩ : ∃ y : Nat → va_E, y = va_up f_204 o0 (.inr (12, [.ref a_2, .ref a_3, .ref a_4, .int v_5, .ref a_6, .int v_7, .int x_208, .int v_73, .int v_74, .int v_75, .int v_76, .int v_13, .int v_14, .int v_15, .int x_202, .ref a_17, .ref a_18, .ref a_19, .ref a_20, .ref a_21, .ref a_22, .ref a_23, .ref a_24, .int v_25, .int v_90, .int v_27, .int v_92, .int v_29, .ref a_30, .int v_31, .ref a_32, .ref a_33, .int v_34, .int v_35, .ref a_36, .int v_37, .ref a_38, .ref a_39, .int v_40, .int v_105, .ref a_42, .ref a_43, .ref a_44, .int v_45, .ref a_46, .ref a_47, .ref a_48, .ref a_49, .ref a_50, .ref a_51, .ref a_52, .ref a_53, .ref a_54, .int v_55, .int v_120, .ref a_57])) := ⟨_, rfl⟩
            have hP : va_P (dC, dI) vwCl (va_pl L f_210) H := by rw [ef_210]; exact hP
            have hD : va_D (fun q => q ∈ L) (va_pl L f_210) := by rw [ef_210]; exact hD
            have hG : GI (okc cI cL cZ cR cG cH L kd) kd L f_210 := by rw [ef_210]; exact hG.set o0 (mk_12 ko0 ⟨a_2, a_3, a_4, v_5, a_6, v_7, x_208, v_73, v_74, v_75, v_76, v_13, v_14, v_15, x_202, a_17, a_18, a_19, a_20, a_21, a_22, a_23, a_24, v_25, v_90, v_27, v_92, v_29, a_30, v_31, a_32, a_33, v_34, v_35, a_36, v_37, a_38, a_39, v_40, v_105, a_42, a_43, a_44, v_45, a_46, a_47, a_48, a_49, a_50, a_51, a_52, a_53, a_54, v_55, v_120, a_57, rfl, ⟨ma_2, ka_2⟩, ⟨ma_3, ka_3⟩, ⟨ma_4, ka_4⟩, (by constructor <;> omega), ⟨ma_6, ka_6⟩, (by constructor <;> omega), (by constructor <;> omega), (by constructor <;> omega), (by constructor <;> omega), (by constructor <;> omega), ⟨ma_17, ka_17⟩, ⟨ma_18, ka_18⟩, ⟨ma_19, ka_19⟩, ⟨ma_20, ka_20⟩, ⟨ma_21, ka_21⟩, ⟨ma_22, ka_22⟩, ⟨ma_23, ka_23⟩, ⟨ma_24, ka_24⟩, (by constructor <;> omega), (by constructor <;> omega), (by constructor <;> omega), ⟨ma_30, ka_30⟩, (by constructor <;> omega), ⟨ma_32, ka_32⟩, ⟨ma_33, ka_33⟩, (by constructor <;> omega), ⟨ma_36, ka_36⟩, (by constructor <;> omega), ⟨ma_38, ka_38⟩, ⟨ma_39, ka_39⟩, (by constructor <;> omega), ⟨ma_42, ka_42⟩, ⟨ma_43, ka_43⟩, ⟨ma_44, ka_44⟩, (by constructor <;> omega), ⟨ma_46, ka_46⟩, ⟨ma_47, ka_47⟩, ⟨ma_48, ka_48⟩, ⟨ma_49, ka_49⟩, ⟨ma_50, ka_50⟩, ⟨ma_51, ka_51⟩, ⟨ma_52, ka_52⟩, ⟨ma_53, ka_53⟩, ⟨ma_54, ka_54⟩, (by constructor <;> omega), ⟨ma_57, ka_57⟩⟩)
            have hfo_211 : f_210 a_3 = .inl (cI, 1560, .inl g_200) := by rw [ef_210, up_ne (kd_ne ko0 ka_3 (by decide))]; exact hfo_205
            have hfr0 : ∀ b, kd b ≠ 12 → f_210 b = f b := fun b q12 => (congrFun ef_210 b).trans ((up_ne (fun e9 => q12 (by rw [e9]; exact ko0))).trans (hfr0 b q12))
            have hrA12 : ∀ b, kd b = 12 → ∀ j, fldR (f_210 b) j = fldR (f b) j := fun b kb j => ((congrArg (fun x => fldR x j) (congrFun ef_210 b)).trans (fra_up (fun j => by rw [hfo_206]; exact fr_set (k := 6) rfl rfl j) j b)).trans (hrA12 b kb j)
            have hfA12 : ∀ b, kd b = 12 → ∀ j, j ≠ 6 → j ≠ 7 → j ≠ 8 → j ≠ 14 → fldI (f_210 b) j = fldI (f b) j := fun b kb j n6 n7 n8 n14 => ((congrArg (fun x => fldI x j) (congrFun ef_210 b)).trans (fia_up (fun h9 => by rw [hfo_206]; exact fi_set (k := 6) rfl h9) n6 b)).trans (hfA12 b kb j n6 n7 n8 n14)
            have hfo_212 : f_210 o0 = .inr (12, [.ref a_2, .ref a_3, .ref a_4, .int v_5, .ref a_6, .int v_7, .int x_208, .int v_73, .int v_74, .int v_75, .int v_76, .int v_13, .int v_14, .int v_15, .int x_202, .ref a_17, .ref a_18, .ref a_19, .ref a_20, .ref a_21, .ref a_22, .ref a_23, .ref a_24, .int v_25, .int v_90, .int v_27, .int v_92, .int v_29, .ref a_30, .int v_31, .ref a_32, .ref a_33, .int v_34, .int v_35, .ref a_36, .int v_37, .ref a_38, .ref a_39, .int v_40, .int v_105, .ref a_42, .ref a_43, .ref a_44, .int v_45, .ref a_46, .ref a_47, .ref a_48, .ref a_49, .ref a_50, .ref a_51, .ref a_52, .ref a_53, .ref a_54, .int v_55, .int v_120, .ref a_57]) := by rw [ef_210]; exact up_self
            refine lv_iconst (v := 1) hx hb dX12_takesX_139 (by decide) ?_
            exact W.zret (v := 1) (ty := .boolean) hx hb hr rfl (fun t ht hW => ⟨⟨1, f_210, rfl, ⟨hG, (by decide), hfr0, hrA12, hfA12, (by intro w6 z6 e6 d6; rw [hfo_1] at e6; rw [hfo_212] at d6; obtain rfl := Option.some.inj e6; obtain rfl := Option.some.inj d6; (try rw [ti_1]) <;> omega)⟩, by rw [ht]; exact hP, va_K.moved hW.alike hK, pl_in hD⟩, hS.F ht⟩) hS.2.2 dX12_takesX_140
          · skip
            rw [← Int32.toInt_inj, ti_0] at c_201
            refine lv_aload_n hx hb dX12_takesX_99 rfl (lv_at hl 2 rfl) ?_
            refine lv_iconst (v := 2) hx hb dX12_takesX_100 (by decide) ?_
            refine lv_aload_n hx hb dX12_takesX_101 rfl (lv_at hl 2 rfl) ?_
            refine tk_getP (D := (dC, dI)) (ci := 12) (v := .int v_72) (C := RX12) (T := TX12) (N := 56) hx hb hU inlX12 hown hK hP mo0 hfo_65 rfl 6 (by decide) (hU _ wd_566) (fun _ h9 => h9) rfl dX12_takesX_102 ?_
            refine tk_ViP (As := [.int 2, .int v_72]) (rest := []) (n := 2) hx hb hml hown hU hN hZ (s_X12_bad_k12 l (dC, dI) cI cL cZ cR cG cH Z kd L f_59 hG o0 mo0 ko0 2 v_72) wd_602 wd_603 wd_604 wd_5 wd_605 (by decide +kernel) ⟨Nat.le_of_ble_eq_true rfl, Nat.le_of_ble_eq_true rfl⟩ hK hP hD hS mo0 hfo_65 12 rfl rfl rfl hl.1 rfl (Nat.le_of_ble_eq_true rfl) dX12_takesX_105 ⟨Nat.le_of_ble_eq_true rfl, Nat.le_of_ble_eq_true rfl⟩ (fun x_213 f_214 H locs hw hP hD hS => ?_)
            obtain ⟨hG, bx_213, hkc_215, hra_216, hfa_217⟩ := hw
            have hfo_219 : f_214 a_3 = .inl (cI, 1560, .inl g_200) := by rw [hkc_215 a_3 (by rw [ka_3]; decide)]; exact hfo_199
            have hfr0 : ∀ b, kd b ≠ 12 → f_214 b = f b := fun b q12 => (hkc_215 b q12).trans (hfr0 b q12)
            have hrA12 : ∀ b, kd b = 12 → ∀ j, fldR (f_214 b) j = fldR (f b) j := fun b kb j => (hra_216 b kb j).trans (hrA12 b kb j)
            have hfA12 : ∀ b, kd b = 12 → ∀ j, j ≠ 6 → j ≠ 7 → j ≠ 8 → j ≠ 14 → fldI (f_214 b) j = fldI (f b) j := fun b kb j n6 n7 n8 n14 => (hfa_217 b kb j n7 n8).trans (hfA12 b kb j n6 n7 n8 n14)
            obtain ⟨a_221, a_222, a_223, v_224, a_225, v_226, v_227, v_228, v_229, v_230, v_231, v_232, v_233, v_234, v_235, a_236, a_237, a_238, a_239, a_240, a_241, a_242, a_243, v_244, v_245, v_246, v_247, v_248, a_249, v_250, a_251, a_252, v_253, v_254, a_255, v_256, a_257, a_258, v_259, v_260, a_261, a_262, a_263, v_264, a_265, a_266, a_267, a_268, a_269, a_270, a_271, a_272, a_273, v_274, v_275, a_276, hfo_220, ⟨ma_221, ka_221⟩, ⟨ma_222, ka_222⟩, ⟨ma_223, ka_223⟩, bv_224, ⟨ma_225, ka_225⟩, bv_226, bv_227, bv_232, bv_233, bv_234, ⟨ma_236, ka_236⟩, ⟨ma_237, ka_237⟩, ⟨ma_238, ka_238⟩, ⟨ma_239, ka_239⟩, ⟨ma_240, ka_240⟩, ⟨ma_241, ka_241⟩, ⟨ma_242, ka_242⟩, ⟨ma_243, ka_243⟩, bv_244, bv_246, bv_248, ⟨ma_249, ka_249⟩, bv_250, ⟨ma_251, ka_251⟩, ⟨ma_252, ka_252⟩, bv_253, ⟨ma_255, ka_255⟩, bv_256, ⟨ma_257, ka_257⟩, ⟨ma_258, ka_258⟩, bv_259, ⟨ma_261, ka_261⟩, ⟨ma_262, ka_262⟩, ⟨ma_263, ka_263⟩, bv_264, ⟨ma_265, ka_265⟩, ⟨ma_266, ka_266⟩, ⟨ma_267, ka_267⟩, ⟨ma_268, ka_268⟩, ⟨ma_269, ka_269⟩, ⟨ma_270, ka_270⟩, ⟨ma_271, ka_271⟩, ⟨ma_272, ka_272⟩, ⟨ma_273, ka_273⟩, bv_274, ⟨ma_276, ka_276⟩⟩ := un_12 (hG _ mo0) ko0
            have bv_228 : ((-2147483648) ≤ v_228.toInt ∧ v_228.toInt ≤ 2147483647) := ⟨i32_lo _, i32_hi _⟩
            have bv_229 : ((-2147483648) ≤ v_229.toInt ∧ v_229.toInt ≤ 2147483647) := ⟨i32_lo _, i32_hi _⟩
            have bv_230 : ((-2147483648) ≤ v_230.toInt ∧ v_230.toInt ≤ 2147483647) := ⟨i32_lo _, i32_hi _⟩
            have bv_231 : ((-2147483648) ≤ v_231.toInt ∧ v_231.toInt ≤ 2147483647) := ⟨i32_lo _, i32_hi _⟩
            have bv_235 : ((-2147483648) ≤ v_235.toInt ∧ v_235.toInt ≤ 2147483647) := ⟨i32_lo _, i32_hi _⟩
            have bv_245 : ((-2147483648) ≤ v_245.toInt ∧ v_245.toInt ≤ 2147483647) := ⟨i32_lo _, i32_hi _⟩
            have bv_247 : ((-2147483648) ≤ v_247.toInt ∧ v_247.toInt ≤ 2147483647) := ⟨i32_lo _, i32_hi _⟩
            have bv_254 : ((-2147483648) ≤ v_254.toInt ∧ v_254.toInt ≤ 2147483647) := ⟨i32_lo _, i32_hi _⟩
            have bv_260 : ((-2147483648) ≤ v_260.toInt ∧ v_260.toInt ≤ 2147483647) := ⟨i32_lo _, i32_hi _⟩
            have bv_275 : ((-2147483648) ≤ v_275.toInt ∧ v_275.toInt ≤ 2147483647) := ⟨i32_lo _, i32_hi _⟩
            obtain ⟨rfl, rfl, rfl, rfl, rfl, rfl, rfl, rfl, rfl, rfl, rfl, rfl, rfl, rfl, rfl, rfl, rfl, rfl, rfl, rfl, rfl, rfl, rfl, rfl, rfl, rfl, rfl, rfl, rfl, rfl, rfl⟩ := re_12 hfo_1 hfo_220 (hrA12 o0 ko0)
            obtain rfl := ri_12_3 hfo_1 hfo_220 (hfA12 o0 ko0 3 (by decide) (by decide) (by decide) (by decide))
            obtain rfl := ri_12_5 hfo_1 hfo_220 (hfA12 o0 ko0 5 (by decide) (by decide) (by decide) (by decide))
            obtain rfl := ri_12_11 hfo_1 hfo_220 (hfA12 o0 ko0 11 (by decide) (by decide) (by decide) (by decide))
            obtain rfl := ri_12_12 hfo_1 hfo_220 (hfA12 o0 ko0 12 (by decide) (by decide) (by decide) (by decide))
            obtain rfl := ri_12_13 hfo_1 hfo_220 (hfA12 o0 ko0 13 (by decide) (by decide) (by decide) (by decide))
            obtain rfl := ri_12_23 hfo_1 hfo_220 (hfA12 o0 ko0 23 (by decide) (by decide) (by decide) (by decide))
            obtain rfl := ri_12_25 hfo_1 hfo_220 (hfA12 o0 ko0 25 (by decide) (by decide) (by decide) (by decide))
            obtain rfl := ri_12_27 hfo_1 hfo_220 (hfA12 o0 ko0 27 (by decide) (by decide) (by decide) (by decide))
            obtain rfl := ri_12_29 hfo_1 hfo_220 (hfA12 o0 ko0 29 (by decide) (by decide) (by decide) (by decide))
            obtain rfl := ri_12_32 hfo_1 hfo_220 (hfA12 o0 ko0 32 (by decide) (by decide) (by decide) (by decide))
            obtain rfl := ri_12_33 hfo_1 hfo_220 (hfA12 o0 ko0 33 (by decide) (by decide) (by decide) (by decide))
            obtain rfl := ri_12_35 hfo_1 hfo_220 (hfA12 o0 ko0 35 (by decide) (by decide) (by decide) (by decide))
            obtain rfl := ri_12_38 hfo_1 hfo_220 (hfA12 o0 ko0 38 (by decide) (by decide) (by decide) (by decide))
            obtain rfl := ri_12_43 hfo_1 hfo_220 (hfA12 o0 ko0 43 (by decide) (by decide) (by decide) (by decide))
            obtain rfl := ri_12_53 hfo_1 hfo_220 (hfA12 o0 ko0 53 (by decide) (by decide) (by decide) (by decide))
            obtain rfl := ri_12_6 hfo_65 hfo_220 (hfa_217 o0 ko0 6 (by decide) (by decide))
            obtain rfl := ri_12_14 hfo_65 hfo_220 (hfa_217 o0 ko0 14 (by decide) (by decide))
            exact W.zret (v := x_213) (ty := .boolean) hx hb hr (zb_n (by constructor <;> omega)) (fun t ht hW => ⟨⟨x_213, f_214, rfl, ⟨hG, (by constructor <;> omega), hfr0, hrA12, hfA12, (by intro w6 z6 e6 d6; rw [hfo_1] at e6; rw [hfo_220] at d6; obtain rfl := Option.some.inj e6; obtain rfl := Option.some.inj d6; omega)⟩, by rw [ht]; exact hP, va_K.moved hW.alike hK, pl_in hD⟩, hS.F ht⟩) hS.2.2 dX12_takesX_108
      · skip
        rw [← Int32.toInt_inj, ti_0] at c_127
        refine lv_aload_n hx hb dX12_takesX_46 rfl (lv_at hl 1 rfl) ?_
        refine lv_aload_n hx hb dX12_takesX_47 rfl (lv_at hl 1 rfl) ?_
        refine tk_getP (D := (dC, dI)) (ci := 12) (v := .ref a_3) (C := RX12) (T := TX12) (N := 56) hx hb hU inlX12 hown hK hP mo0 hfo_65 rfl 1 (by decide) (hU _ wd_170) (fun _ h9 => h9) rfl dX12_takesX_48 ?_
        refine lv_bipush (v := 10) hx hb dX12_takesX_51 (by decide) ?_
        refine lv_iload_n hx hb dX12_takesX_53 rfl (lv_at hl 0 rfl) ?_
        refine lv_iadd hx hb dX12_takesX_54 ?_
        refine lv_topi (fun x_277 ex_277 => ?_)
        have hx_277 : x_277.toInt = 10 + x_58.toInt := by rw [ex_277, ad_I (by rw [ti_10]; omega) (by rw [ti_10]; omega), ti_10]
        have bx_277 : (75 ≤ x_277.toInt ∧ x_277.toInt ≤ 80) := by constructor <;> omega
        refine lv_bipush (v := 65) hx hb dX12_takesX_55 (by decide) ?_
        refine lv_isub hx hb dX12_takesX_57 ?_
        refine lv_topi (fun x_278 ex_278 => ?_)
        have hx_278 : x_278.toInt = x_277.toInt - 65 := by rw [ex_278, sb_I (by rw [ti_65]; omega) (by rw [ti_65]; omega), ti_65]
        have bx_278 : (10 ≤ x_278.toInt ∧ x_278.toInt ≤ 15) := by constructor <;> omega
        obtain ⟨g_280, hfo_279, hbg_280⟩ := un_576 (hG _ ma_3) ka_3
        refine tk_ildP hx hb hK hP 0 ma_3 hfo_279 rfl (vp_in_iff.mpr (by constructor <;> omega)) dX12_takesX_58 ?_
        refine lv_topi (fun x_281 ex_281 => ?_)
        have bx_281 : ((-2147483648) ≤ x_281.toInt ∧ x_281.toInt ≤ 2147483647) := ⟨i32_lo _, i32_hi _⟩
        refine tk_putP (D := (dC, dI)) (ci := 12) (v := .int x_281) (ty := .int) (C := RX12) (T := TX12) (N := 56) hx hb hU inlX12 tyX12 tyX12_ok nmX12 hown hK hP hD hS mo0 hfo_65 rfl 14 (by decide) (hU _ wd_654) (fun _ h9 => h9) rfl (by decide +kernel) rfl rfl (Nat.le_of_ble_eq_true rfl) dX12_takesX_59 (fun H locs hP hD hS => ?_)
        obtain ⟨f_283, ef_283⟩ : ∃ y : Nat → va_E, y = va_up f_59 o0 (.inr (12, [.ref a_2, .ref a_3, .ref a_4, .int v_5, .ref a_6, .int v_7, .int v_72, .int v_73, .int v_74, .int v_75, .int v_76, .int v_13, .int v_14, .int v_15, .int x_281, .ref a_17, .ref a_18, .ref a_19, .ref a_20, .ref a_21, .ref a_22, .ref a_23, .ref a_24, .int v_25, .int v_90, .int v_27, .int v_92, .int v_29, .ref a_30, .int v_31, .ref a_32, .ref a_33, .int v_34, .int v_35, .ref a_36, .int v_37, .ref a_38, .ref a_39, .int v_40, .int v_105, .ref a_42, .ref a_43, .ref a_44, .int v_45, .ref a_46, .ref a_47, .ref a_48, .ref a_49, .ref a_50, .ref a_51, .ref a_52, .ref a_53, .ref a_54, .int v_55, .int v_120, .ref a_57])) := ⟨_, rfl⟩
        have hP : va_P (dC, dI) vwCl (va_pl L f_283) H := by rw [ef_283]; exact hP
        have hD : va_D (fun q => q ∈ L) (va_pl L f_283) := by rw [ef_283]; exact hD
        have hG : GI (okc cI cL cZ cR cG cH L kd) kd L f_283 := by rw [ef_283]; exact hG.set o0 (mk_12 ko0 ⟨a_2, a_3, a_4, v_5, a_6, v_7, v_72, v_73, v_74, v_75, v_76, v_13, v_14, v_15, x_281, a_17, a_18, a_19, a_20, a_21, a_22, a_23, a_24, v_25, v_90, v_27, v_92, v_29, a_30, v_31, a_32, a_33, v_34, v_35, a_36, v_37, a_38, a_39, v_40, v_105, a_42, a_43, a_44, v_45, a_46, a_47, a_48, a_49, a_50, a_51, a_52, a_53, a_54, v_55, v_120, a_57, rfl, ⟨ma_2, ka_2⟩, ⟨ma_3, ka_3⟩, ⟨ma_4, ka_4⟩, (by constructor <;> omega), ⟨ma_6, ka_6⟩, (by constructor <;> omega), (by constructor <;> omega), (by constructor <;> omega), (by constructor <;> omega), (by constructor <;> omega), ⟨ma_17, ka_17⟩, ⟨ma_18, ka_18⟩, ⟨ma_19, ka_19⟩, ⟨ma_20, ka_20⟩, ⟨ma_21, ka_21⟩, ⟨ma_22, ka_22⟩, ⟨ma_23, ka_23⟩, ⟨ma_24, ka_24⟩, (by constructor <;> omega), (by constructor <;> omega), (by constructor <;> omega), ⟨ma_30, ka_30⟩, (by constructor <;> omega), ⟨ma_32, ka_32⟩, ⟨ma_33, ka_33⟩, (by constructor <;> omega), ⟨ma_36, ka_36⟩, (by constructor <;> omega), ⟨ma_38, ka_38⟩, ⟨ma_39, ka_39⟩, (by constructor <;> omega), ⟨ma_42, ka_42⟩, ⟨ma_43, ka_43⟩, ⟨ma_44, ka_44⟩, (by constructor <;> omega), ⟨ma_46, ka_46⟩, ⟨ma_47, ka_47⟩, ⟨ma_48, ka_48⟩, ⟨ma_49, ka_49⟩, ⟨ma_50, ka_50⟩, ⟨ma_51, ka_51⟩, ⟨ma_52, ka_52⟩, ⟨ma_53, ka_53⟩, ⟨ma_54, ka_54⟩, (by constructor <;> omega), ⟨ma_57, ka_57⟩⟩)
        have hfo_284 : f_283 a_3 = .inl (cI, 1560, .inl g_280) := by rw [ef_283, up_ne (kd_ne ko0 ka_3 (by decide))]; exact hfo_279
        have hfr0 : ∀ b, kd b ≠ 12 → f_283 b = f b := fun b q12 => (congrFun ef_283 b).trans ((up_ne (fun e9 => q12 (by rw [e9]; exact ko0))).trans (hfr0 b q12))
        have hrA12 : ∀ b, kd b = 12 → ∀ j, fldR (f_283 b) j = fldR (f b) j := fun b kb j => ((congrArg (fun x => fldR x j) (congrFun ef_283 b)).trans (fra_up (fun j => by rw [hfo_65]; exact fr_set (k := 14) rfl rfl j) j b)).trans (hrA12 b kb j)
        have hfA12 : ∀ b, kd b = 12 → ∀ j, j ≠ 6 → j ≠ 7 → j ≠ 8 → j ≠ 14 → fldI (f_283 b) j = fldI (f b) j := fun b kb j n6 n7 n8 n14 => ((congrArg (fun x => fldI x j) (congrFun ef_283 b)).trans (fia_up (fun h9 => by rw [hfo_65]; exact fi_set (k := 14) rfl h9) n14 b)).trans (hfA12 b kb j n6 n7 n8 n14)
        have hfo_285 : f_283 o0 = .inr (12, [.ref a_2, .ref a_3, .ref a_4, .int v_5, .ref a_6, .int v_7, .int v_72, .int v_73, .int v_74, .int v_75, .int v_76, .int v_13, .int v_14, .int v_15, .int x_281, .ref a_17, .ref a_18, .ref a_19, .ref a_20, .ref a_21, .ref a_22, .ref a_23, .ref a_24, .int v_25, .int v_90, .int v_27, .int v_92, .int v_29, .ref a_30, .int v_31, .ref a_32, .ref a_33, .int v_34, .int v_35, .ref a_36, .int v_37, .ref a_38, .ref a_39, .int v_40, .int v_105, .ref a_42, .ref a_43, .ref a_44, .int v_45, .ref a_46, .ref a_47, .ref a_48, .ref a_49, .ref a_50, .ref a_51, .ref a_52, .ref a_53, .ref a_54, .int v_55, .int v_120, .ref a_57]) := by rw [ef_283]; exact up_self
        refine lv_aload_n hx hb dX12_takesX_62 rfl (lv_at hl 1 rfl) ?_
        refine tk_getP (D := (dC, dI)) (ci := 12) (v := .int x_281) (C := RX12) (T := TX12) (N := 56) hx hb hU inlX12 hown hK hP mo0 hfo_285 rfl 14 (by decide) (hU _ wd_654) (fun _ h9 => h9) rfl dX12_takesX_63 ?_
        refine lv_if_ne (tgt := 129) hx hb dX12_takesX_66 (by decide) (fun c_286 => ?_) (fun c_286 => ?_)
        · skip
          rw [← Int32.toInt_inj, ti_0] at c_286
          have hclc_287 : (0 ≤ v_72.toInt ∧ v_72.toInt ≤ 599) := by constructor <;> omega
          refine lv_aload_n hx hb dX12_takesX_129 rfl (lv_at hl 1 rfl) ?_
          refine lv_dup hx hb dX12_takesX_130 rfl ?_
          refine tk_getP (D := (dC, dI)) (ci := 12) (v := .int v_72) (C := RX12) (T := TX12) (N := 56) hx hb hU inlX12 hown hK hP mo0 hfo_285 rfl 6 (by decide) (hU _ wd_566) (fun _ h9 => h9) rfl dX12_takesX_131 ?_
          refine lv_iconst (v := 1) hx hb dX12_takesX_134 (by decide) ?_
          refine lv_iadd hx hb dX12_takesX_135 ?_
          refine lv_topi (fun x_288 ex_288 => ?_)
          have hx_288 : x_288.toInt = v_72.toInt + 1 := by rw [ex_288, ad_I (by rw [ti_1]; omega) (by rw [ti_1]; omega), ti_1]
          have bx_288 : (1 ≤ x_288.toInt ∧ x_288.toInt ≤ 600) := by constructor <;> omega
          refine tk_putP (D := (dC, dI)) (ci := 12) (v := .int x_288) (ty := .int) (C := RX12) (T := TX12) (N := 56) hx hb hU inlX12 tyX12 tyX12_ok nmX12 hown hK hP hD hS mo0 hfo_285 rfl 6 (by decide) (hU _ wd_566) (fun _ h9 => h9) rfl (by decide +kernel) rfl rfl (Nat.le_of_ble_eq_true rfl) dX12_takesX_136 (fun H locs hP hD hS => ?_)
          obtain ⟨f_290, ef_290⟩ : ∃ y : Nat → va_E, y = va_up f_283 o0 (.inr (12, [.ref a_2, .ref a_3, .ref a_4, .int v_5, .ref a_6, .int v_7, .int x_288, .int v_73, .int v_74, .int v_75, .int v_76, .int v_13, .int v_14, .int v_15, .int x_281, .ref a_17, .ref a_18, .ref a_19, .ref a_20, .ref a_21, .ref a_22, .ref a_23, .ref a_24, .int v_25, .int v_90, .int v_27, .int v_92, .int v_29, .ref a_30, .int v_31, .ref a_32, .ref a_33, .int v_34, .int v_35, .ref a_36, .int v_37, .ref a_38, .ref a_39, .int v_40, .int v_105, .ref a_42, .ref a_43, .ref a_44, .int v_45, .ref a_46, .ref a_47, .ref a_48, .ref a_49, .ref a_50, .ref a_51, .ref a_52, .ref a_53, .ref a_54, .int v_55, .int v_120, .ref a_57])) := ⟨_, rfl⟩
          have hP : va_P (dC, dI) vwCl (va_pl L f_290) H := by rw [ef_290]; exact hP
          have hD : va_D (fun q => q ∈ L) (va_pl L f_290) := by rw [ef_290]; exact hD
          have hG : GI (okc cI cL cZ cR cG cH L kd) kd L f_290 := by rw [ef_290]; exact hG.set o0 (mk_12 ko0 ⟨a_2, a_3, a_4, v_5, a_6, v_7, x_288, v_73, v_74, v_75, v_76, v_13, v_14, v_15, x_281, a_17, a_18, a_19, a_20, a_21, a_22, a_23, a_24, v_25, v_90, v_27, v_92, v_29, a_30, v_31, a_32, a_33, v_34, v_35, a_36, v_37, a_38, a_39, v_40, v_105, a_42, a_43, a_44, v_45, a_46, a_47, a_48, a_49, a_50, a_51, a_52, a_53, a_54, v_55, v_120, a_57, rfl, ⟨ma_2, ka_2⟩, ⟨ma_3, ka_3⟩, ⟨ma_4, ka_4⟩, (by constructor <;> omega), ⟨ma_6, ka_6⟩, (by constructor <;> omega), (by constructor <;> omega), (by constructor <;> omega), (by constructor <;> omega), (by constructor <;> omega), ⟨ma_17, ka_17⟩, ⟨ma_18, ka_18⟩, ⟨ma_19, ka_19⟩, ⟨ma_20, ka_20⟩, ⟨ma_21, ka_21⟩, ⟨ma_22, ka_22⟩, ⟨ma_23, ka_23⟩, ⟨ma_24, ka_24⟩, (by constructor <;> omega), (by constructor <;> omega), (by constructor <;> omega), ⟨ma_30, ka_30⟩, (by constructor <;> omega), ⟨ma_32, ka_32⟩, ⟨ma_33, ka_33⟩, (by constructor <;> omega), ⟨ma_36, ka_36⟩, (by constructor <;> omega), ⟨ma_38, ka_38⟩, ⟨ma_39, ka_39⟩, (by constructor <;> omega), ⟨ma_42, ka_42⟩, ⟨ma_43, ka_43⟩, ⟨ma_44, ka_44⟩, (by constructor <;> omega), ⟨ma_46, ka_46⟩, ⟨ma_47, ka_47⟩, ⟨ma_48, ka_48⟩, ⟨ma_49, ka_49⟩, ⟨ma_50, ka_50⟩, ⟨ma_51, ka_51⟩, ⟨ma_52, ka_52⟩, ⟨ma_53, ka_53⟩, ⟨ma_54, ka_54⟩, (by constructor <;> omega), ⟨ma_57, ka_57⟩⟩)
          have hfo_291 : f_290 a_3 = .inl (cI, 1560, .inl g_280) := by rw [ef_290, up_ne (kd_ne ko0 ka_3 (by decide))]; exact hfo_284
          have hfr0 : ∀ b, kd b ≠ 12 → f_290 b = f b := fun b q12 => (congrFun ef_290 b).trans ((up_ne (fun e9 => q12 (by rw [e9]; exact ko0))).trans (hfr0 b q12))
          have hrA12 : ∀ b, kd b = 12 → ∀ j, fldR (f_290 b) j = fldR (f b) j := fun b kb j => ((congrArg (fun x => fldR x j) (congrFun ef_290 b)).trans (fra_up (fun j => by rw [hfo_285]; exact fr_set (k := 6) rfl rfl j) j b)).trans (hrA12 b kb j)
          have hfA12 : ∀ b, kd b = 12 → ∀ j, j ≠ 6 → j ≠ 7 → j ≠ 8 → j ≠ 14 → fldI (f_290 b) j = fldI (f b) j := fun b kb j n6 n7 n8 n14 => ((congrArg (fun x => fldI x j) (congrFun ef_290 b)).trans (fia_up (fun h9 => by rw [hfo_285]; exact fi_set (k := 6) rfl h9) n6 b)).trans (hfA12 b kb j n6 n7 n8 n14)
          have hfo_292 : f_290 o0 = .inr (12, [.ref a_2, .ref a_3, .ref a_4, .int v_5, .ref a_6, .int v_7, .int x_288, .int v_73, .int v_74, .int v_75, .int v_76, .int v_13, .int v_14, .int v_15, .int x_281, .ref a_17, .ref a_18, .ref a_19, .ref a_20, .ref a_21, .ref a_22, .ref a_23, .ref a_24, .int v_25, .int v_90, .int v_27, .int v_92, .int v_29, .ref a_30, .int v_31, .ref a_32, .ref a_33, .int v_34, .int v_35, .ref a_36, .int v_37, .ref a_38, .ref a_39, .int v_40, .int v_105, .ref a_42, .ref a_43, .ref a_44, .int v_45, .ref a_46, .ref a_47, .ref a_48, .ref a_49, .ref a_50, .ref a_51, .ref a_52, .ref a_53, .ref a_54, .int v_55, .int v_120, .ref a_57]) := by rw [ef_290]; exact up_self
          refine lv_iconst (v := 1) hx hb dX12_takesX_139 (by decide) ?_
          exact W.zret (v := 1) (ty := .boolean) hx hb hr rfl (fun t ht hW => ⟨⟨1, f_290, rfl, ⟨hG, (by decide), hfr0, hrA12, hfA12, (by intro w6 z6 e6 d6; rw [hfo_1] at e6; rw [hfo_292] at d6; obtain rfl := Option.some.inj e6; obtain rfl := Option.some.inj d6; (try rw [ti_1]) <;> omega)⟩, by rw [ht]; exact hP, va_K.moved hW.alike hK, pl_in hD⟩, hS.F ht⟩) hS.2.2 dX12_takesX_140
        · skip
          rw [← Int32.toInt_inj, ti_0] at c_286
          refine lv_aload_n hx hb dX12_takesX_69 rfl (lv_at hl 1 rfl) ?_
          refine lv_iconst (v := 2) hx hb dX12_takesX_70 (by decide) ?_
          refine lv_aload_n hx hb dX12_takesX_71 rfl (lv_at hl 1 rfl) ?_
          refine tk_getP (D := (dC, dI)) (ci := 12) (v := .int v_72) (C := RX12) (T := TX12) (N := 56) hx hb hU inlX12 hown hK hP mo0 hfo_285 rfl 6 (by decide) (hU _ wd_566) (fun _ h9 => h9) rfl dX12_takesX_72 ?_
          refine tk_ViP (As := [.int 2, .int v_72]) (rest := []) (n := 2) hx hb hml hown hU hN hZ (s_X12_bad_k12 l (dC, dI) cI cL cZ cR cG cH Z kd L f_283 hG o0 mo0 ko0 2 v_72) wd_602 wd_603 wd_604 wd_5 wd_605 (by decide +kernel) ⟨Nat.le_of_ble_eq_true rfl, Nat.le_of_ble_eq_true rfl⟩ hK hP hD hS mo0 hfo_285 12 rfl rfl rfl hl.1 rfl (Nat.le_of_ble_eq_true rfl) dX12_takesX_75 ⟨Nat.le_of_ble_eq_true rfl, Nat.le_of_ble_eq_true rfl⟩ (fun x_293 f_294 H locs hw hP hD hS => ?_)
          obtain ⟨hG, bx_293, hkc_295, hra_296, hfa_297⟩ := hw
          have hfo_299 : f_294 a_3 = .inl (cI, 1560, .inl g_280) := by rw [hkc_295 a_3 (by rw [ka_3]; decide)]; exact hfo_284
          have hfr0 : ∀ b, kd b ≠ 12 → f_294 b = f b := fun b q12 => (hkc_295 b q12).trans (hfr0 b q12)
          have hrA12 : ∀ b, kd b = 12 → ∀ j, fldR (f_294 b) j = fldR (f b) j := fun b kb j => (hra_296 b kb j).trans (hrA12 b kb j)
          have hfA12 : ∀ b, kd b = 12 → ∀ j, j ≠ 6 → j ≠ 7 → j ≠ 8 → j ≠ 14 → fldI (f_294 b) j = fldI (f b) j := fun b kb j n6 n7 n8 n14 => (hfa_297 b kb j n7 n8).trans (hfA12 b kb j n6 n7 n8 n14)
          obtain ⟨a_301, a_302, a_303, v_304, a_305, v_306, v_307, v_308, v_309, v_310, v_311, v_312, v_313, v_314, v_315, a_316, a_317, a_318, a_319, a_320, a_321, a_322, a_323, v_324, v_325, v_326, v_327, v_328, a_329, v_330, a_331, a_332, v_333, v_334, a_335, v_336, a_337, a_338, v_339, v_340, a_341, a_342, a_343, v_344, a_345, a_346, a_347, a_348, a_349, a_350, a_351, a_352, a_353, v_354, v_355, a_356, hfo_300, ⟨ma_301, ka_301⟩, ⟨ma_302, ka_302⟩, ⟨ma_303, ka_303⟩, bv_304, ⟨ma_305, ka_305⟩, bv_306, bv_307, bv_312, bv_313, bv_314, ⟨ma_316, ka_316⟩, ⟨ma_317, ka_317⟩, ⟨ma_318, ka_318⟩, ⟨ma_319, ka_319⟩, ⟨ma_320, ka_320⟩, ⟨ma_321, ka_321⟩, ⟨ma_322, ka_322⟩, ⟨ma_323, ka_323⟩, bv_324, bv_326, bv_328, ⟨ma_329, ka_329⟩, bv_330, ⟨ma_331, ka_331⟩, ⟨ma_332, ka_332⟩, bv_333, ⟨ma_335, ka_335⟩, bv_336, ⟨ma_337, ka_337⟩, ⟨ma_338, ka_338⟩, bv_339, ⟨ma_341, ka_341⟩, ⟨ma_342, ka_342⟩, ⟨ma_343, ka_343⟩, bv_344, ⟨ma_345, ka_345⟩, ⟨ma_346, ka_346⟩, ⟨ma_347, ka_347⟩, ⟨ma_348, ka_348⟩, ⟨ma_349, ka_349⟩, ⟨ma_350, ka_350⟩, ⟨ma_351, ka_351⟩, ⟨ma_352, ka_352⟩, ⟨ma_353, ka_353⟩, bv_354, ⟨ma_356, ka_356⟩⟩ := un_12 (hG _ mo0) ko0
          have bv_308 : ((-2147483648) ≤ v_308.toInt ∧ v_308.toInt ≤ 2147483647) := ⟨i32_lo _, i32_hi _⟩
          have bv_309 : ((-2147483648) ≤ v_309.toInt ∧ v_309.toInt ≤ 2147483647) := ⟨i32_lo _, i32_hi _⟩
          have bv_310 : ((-2147483648) ≤ v_310.toInt ∧ v_310.toInt ≤ 2147483647) := ⟨i32_lo _, i32_hi _⟩
          have bv_311 : ((-2147483648) ≤ v_311.toInt ∧ v_311.toInt ≤ 2147483647) := ⟨i32_lo _, i32_hi _⟩
          have bv_315 : ((-2147483648) ≤ v_315.toInt ∧ v_315.toInt ≤ 2147483647) := ⟨i32_lo _, i32_hi _⟩
          have bv_325 : ((-2147483648) ≤ v_325.toInt ∧ v_325.toInt ≤ 2147483647) := ⟨i32_lo _, i32_hi _⟩
          have bv_327 : ((-2147483648) ≤ v_327.toInt ∧ v_327.toInt ≤ 2147483647) := ⟨i32_lo _, i32_hi _⟩
          have bv_334 : ((-2147483648) ≤ v_334.toInt ∧ v_334.toInt ≤ 2147483647) := ⟨i32_lo _, i32_hi _⟩
          have bv_340 : ((-2147483648) ≤ v_340.toInt ∧ v_340.toInt ≤ 2147483647) := ⟨i32_lo _, i32_hi _⟩
          have bv_355 : ((-2147483648) ≤ v_355.toInt ∧ v_355.toInt ≤ 2147483647) := ⟨i32_lo _, i32_hi _⟩
          obtain ⟨rfl, rfl, rfl, rfl, rfl, rfl, rfl, rfl, rfl, rfl, rfl, rfl, rfl, rfl, rfl, rfl, rfl, rfl, rfl, rfl, rfl, rfl, rfl, rfl, rfl, rfl, rfl, rfl, rfl, rfl, rfl⟩ := re_12 hfo_1 hfo_300 (hrA12 o0 ko0)
          obtain rfl := ri_12_3 hfo_1 hfo_300 (hfA12 o0 ko0 3 (by decide) (by decide) (by decide) (by decide))
          obtain rfl := ri_12_5 hfo_1 hfo_300 (hfA12 o0 ko0 5 (by decide) (by decide) (by decide) (by decide))
          obtain rfl := ri_12_11 hfo_1 hfo_300 (hfA12 o0 ko0 11 (by decide) (by decide) (by decide) (by decide))
          obtain rfl := ri_12_12 hfo_1 hfo_300 (hfA12 o0 ko0 12 (by decide) (by decide) (by decide) (by decide))
          obtain rfl := ri_12_13 hfo_1 hfo_300 (hfA12 o0 ko0 13 (by decide) (by decide) (by decide) (by decide))
          obtain rfl := ri_12_23 hfo_1 hfo_300 (hfA12 o0 ko0 23 (by decide) (by decide) (by decide) (by decide))
          obtain rfl := ri_12_25 hfo_1 hfo_300 (hfA12 o0 ko0 25 (by decide) (by decide) (by decide) (by decide))
          obtain rfl := ri_12_27 hfo_1 hfo_300 (hfA12 o0 ko0 27 (by decide) (by decide) (by decide) (by decide))
          obtain rfl := ri_12_29 hfo_1 hfo_300 (hfA12 o0 ko0 29 (by decide) (by decide) (by decide) (by decide))
          obtain rfl := ri_12_32 hfo_1 hfo_300 (hfA12 o0 ko0 32 (by decide) (by decide) (by decide) (by decide))
          obtain rfl := ri_12_33 hfo_1 hfo_300 (hfA12 o0 ko0 33 (by decide) (by decide) (by decide) (by decide))
          obtain rfl := ri_12_35 hfo_1 hfo_300 (hfA12 o0 ko0 35 (by decide) (by decide) (by decide) (by decide))
          obtain rfl := ri_12_38 hfo_1 hfo_300 (hfA12 o0 ko0 38 (by decide) (by decide) (by decide) (by decide))
          obtain rfl := ri_12_43 hfo_1 hfo_300 (hfA12 o0 ko0 43 (by decide) (by decide) (by decide) (by decide))
          obtain rfl := ri_12_53 hfo_1 hfo_300 (hfA12 o0 ko0 53 (by decide) (by decide) (by decide) (by decide))
          obtain rfl := ri_12_6 hfo_285 hfo_300 (hfa_297 o0 ko0 6 (by decide) (by decide))
          obtain rfl := ri_12_14 hfo_285 hfo_300 (hfa_297 o0 ko0 14 (by decide) (by decide))
          exact W.zret (v := x_293) (ty := .boolean) hx hb hr (zb_n (by constructor <;> omega)) (fun t ht hW => ⟨⟨x_293, f_294, rfl, ⟨hG, (by constructor <;> omega), hfr0, hrA12, hfA12, (by intro w6 z6 e6 d6; rw [hfo_1] at e6; rw [hfo_300] at d6; obtain rfl := Option.some.inj e6; obtain rfl := Option.some.inj d6; omega)⟩, by rw [ht]; exact hP, va_K.moved hW.alike hK, pl_in hD⟩, hS.F ht⟩) hS.2.2 dX12_takesX_78
    · skip
      rw [← Int32.toInt_inj, ti_48] at c_123
      refine lv_aload_n hx hb dX12_takesX_27 rfl (lv_at hl 1 rfl) ?_
      refine lv_iconst (v := 1) hx hb dX12_takesX_28 (by decide) ?_
      refine tk_putP (D := (dC, dI)) (ci := 12) (v := .int 1) (ty := .int) (C := RX12) (T := TX12) (N := 56) hx hb hU inlX12 tyX12 tyX12_ok nmX12 hown hK hP hD hS mo0 hfo_65 rfl 14 (by decide) (hU _ wd_654) (fun _ h9 => h9) rfl (by decide +kernel) rfl rfl (Nat.le_of_ble_eq_true rfl) dX12_takesX_29 (fun H locs hP hD hS => ?_)
      obtain ⟨f_358, ef_358⟩ : ∃ y : Nat → va_E, y = va_up f_59 o0 (.inr (12, [.ref a_2, .ref a_3, .ref a_4, .int v_5, .ref a_6, .int v_7, .int v_72, .int v_73, .int v_74, .int v_75, .int v_76, .int v_13, .int v_14, .int v_15, .int 1, .ref a_17, .ref a_18, .ref a_19, .ref a_20, .ref a_21, .ref a_22, .ref a_23, .ref a_24, .int v_25, .int v_90, .int v_27, .int v_92, .int v_29, .ref a_30, .int v_31, .ref a_32, .ref a_33, .int v_34, .int v_35, .ref a_36, .int v_37, .ref a_38, .ref a_39, .int v_40, .int v_105, .ref a_42, .ref a_43, .ref a_44, .int v_45, .ref a_46, .ref a_47, .ref a_48, .ref a_49, .ref a_50, .ref a_51, .ref a_52, .ref a_53, .ref a_54, .int v_55, .int v_120, .ref a_57])) := ⟨_, rfl⟩
      have hP : va_P (dC, dI) vwCl (va_pl L f_358) H := by rw [ef_358]; exact hP
      have hD : va_D (fun q => q ∈ L) (va_pl L f_358) := by rw [ef_358]; exact hD
      have hG : GI (okc cI cL cZ cR cG cH L kd) kd L f_358 := by rw [ef_358]; exact hG.set o0 (mk_12 ko0 ⟨a_2, a_3, a_4, v_5, a_6, v_7, v_72, v_73, v_74, v_75, v_76, v_13, v_14, v_15, 1, a_17, a_18, a_19, a_20, a_21, a_22, a_23, a_24, v_25, v_90, v_27, v_92, v_29, a_30, v_31, a_32, a_33, v_34, v_35, a_36, v_37, a_38, a_39, v_40, v_105, a_42, a_43, a_44, v_45, a_46, a_47, a_48, a_49, a_50, a_51, a_52, a_53, a_54, v_55, v_120, a_57, rfl, ⟨ma_2, ka_2⟩, ⟨ma_3, ka_3⟩, ⟨ma_4, ka_4⟩, (by constructor <;> omega), ⟨ma_6, ka_6⟩, (by constructor <;> omega), (by constructor <;> omega), (by constructor <;> omega), (by constructor <;> omega), (by constructor <;> omega), ⟨ma_17, ka_17⟩, ⟨ma_18, ka_18⟩, ⟨ma_19, ka_19⟩, ⟨ma_20, ka_20⟩, ⟨ma_21, ka_21⟩, ⟨ma_22, ka_22⟩, ⟨ma_23, ka_23⟩, ⟨ma_24, ka_24⟩, (by constructor <;> omega), (by constructor <;> omega), (by constructor <;> omega), ⟨ma_30, ka_30⟩, (by constructor <;> omega), ⟨ma_32, ka_32⟩, ⟨ma_33, ka_33⟩, (by constructor <;> omega), ⟨ma_36, ka_36⟩, (by constructor <;> omega), ⟨ma_38, ka_38⟩, ⟨ma_39, ka_39⟩, (by constructor <;> omega), ⟨ma_42, ka_42⟩, ⟨ma_43, ka_43⟩, ⟨ma_44, ka_44⟩, (by constructor <;> omega), ⟨ma_46, ka_46⟩, ⟨ma_47, ka_47⟩, ⟨ma_48, ka_48⟩, ⟨ma_49, ka_49⟩, ⟨ma_50, ka_50⟩, ⟨ma_51, ka_51⟩, ⟨ma_52, ka_52⟩, ⟨ma_53, ka_53⟩, ⟨ma_54, ka_54⟩, (by constructor <;> omega), ⟨ma_57, ka_57⟩⟩)
      have hfr0 : ∀ b, kd b ≠ 12 → f_358 b = f b := fun b q12 => (congrFun ef_358 b).trans ((up_ne (fun e9 => q12 (by rw [e9]; exact ko0))).trans (hfr0 b q12))
      have hrA12 : ∀ b, kd b = 12 → ∀ j, fldR (f_358 b) j = fldR (f b) j := fun b kb j => ((congrArg (fun x => fldR x j) (congrFun ef_358 b)).trans (fra_up (fun j => by rw [hfo_65]; exact fr_set (k := 14) rfl rfl j) j b)).trans (hrA12 b kb j)
      have hfA12 : ∀ b, kd b = 12 → ∀ j, j ≠ 6 → j ≠ 7 → j ≠ 8 → j ≠ 14 → fldI (f_358 b) j = fldI (f b) j := fun b kb j n6 n7 n8 n14 => ((congrArg (fun x => fldI x j) (congrFun ef_358 b)).trans (fia_up (fun h9 => by rw [hfo_65]; exact fi_set (k := 14) rfl h9) n14 b)).trans (hfA12 b kb j n6 n7 n8 n14)
      have hfo_359 : f_358 o0 = .inr (12, [.ref a_2, .ref a_3, .ref a_4, .int v_5, .ref a_6, .int v_7, .int v_72, .int v_73, .int v_74, .int v_75, .int v_76, .int v_13, .int v_14, .int v_15, .int 1, .ref a_17, .ref a_18, .ref a_19, .ref a_20, .ref a_21, .ref a_22, .ref a_23, .ref a_24, .int v_25, .int v_90, .int v_27, .int v_92, .int v_29, .ref a_30, .int v_31, .ref a_32, .ref a_33, .int v_34, .int v_35, .ref a_36, .int v_37, .ref a_38, .ref a_39, .int v_40, .int v_105, .ref a_42, .ref a_43, .ref a_44, .int v_45, .ref a_46, .ref a_47, .ref a_48, .ref a_49, .ref a_50, .ref a_51, .ref a_52, .ref a_53, .ref a_54, .int v_55, .int v_120, .ref a_57]) := by rw [ef_358]; exact up_self
      refine lv_goto (tgt := 129) hx hb dX12_takesX_32 (by decide) ?_
      have hclc_360 : (0 ≤ v_72.toInt ∧ v_72.toInt ≤ 599) := by constructor <;> omega
      refine lv_aload_n hx hb dX12_takesX_129 rfl (lv_at hl 1 rfl) ?_
      refine lv_dup hx hb dX12_takesX_130 rfl ?_
      refine tk_getP (D := (dC, dI)) (ci := 12) (v := .int v_72) (C := RX12) (T := TX12) (N := 56) hx hb hU inlX12 hown hK hP mo0 hfo_359 rfl 6 (by decide) (hU _ wd_566) (fun _ h9 => h9) rfl dX12_takesX_131 ?_
      refine lv_iconst (v := 1) hx hb dX12_takesX_134 (by decide) ?_
      refine lv_iadd hx hb dX12_takesX_135 ?_
      refine lv_topi (fun x_361 ex_361 => ?_)
      have hx_361 : x_361.toInt = v_72.toInt + 1 := by rw [ex_361, ad_I (by rw [ti_1]; omega) (by rw [ti_1]; omega), ti_1]
      have bx_361 : (1 ≤ x_361.toInt ∧ x_361.toInt ≤ 600) := by constructor <;> omega
      refine tk_putP (D := (dC, dI)) (ci := 12) (v := .int x_361) (ty := .int) (C := RX12) (T := TX12) (N := 56) hx hb hU inlX12 tyX12 tyX12_ok nmX12 hown hK hP hD hS mo0 hfo_359 rfl 6 (by decide) (hU _ wd_566) (fun _ h9 => h9) rfl (by decide +kernel) rfl rfl (Nat.le_of_ble_eq_true rfl) dX12_takesX_136 (fun H locs hP hD hS => ?_)
      obtain ⟨f_363, ef_363⟩ : ∃ y : Nat → va_E, y = va_up f_358 o0 (.inr (12, [.ref a_2, .ref a_3, .ref a_4, .int v_5, .ref a_6, .int v_7, .int x_361, .int v_73, .int v_74, .int v_75, .int v_76, .int v_13, .int v_14, .int v_15, .int 1, .ref a_17, .ref a_18, .ref a_19, .ref a_20, .ref a_21, .ref a_22, .ref a_23, .ref a_24, .int v_25, .int v_90, .int v_27, .int v_92, .int v_29, .ref a_30, .int v_31, .ref a_32, .ref a_33, .int v_34, .int v_35, .ref a_36, .int v_37, .ref a_38, .ref a_39, .int v_40, .int v_105, .ref a_42, .ref a_43, .ref a_44, .int v_45, .ref a_46, .ref a_47, .ref a_48, .ref a_49, .ref a_50, .ref a_51, .ref a_52, .ref a_53, .ref a_54, .int v_55, .int v_120, .ref a_57])) := ⟨_, rfl⟩
      have hP : va_P (dC, dI) vwCl (va_pl L f_363) H := by rw [ef_363]; exact hP
      have hD : va_D (fun q => q ∈ L) (va_pl L f_363) := by rw [ef_363]; exact hD
      have hG : GI (okc cI cL cZ cR cG cH L kd) kd L f_363 := by rw [ef_363]; exact hG.set o0 (mk_12 ko0 ⟨a_2, a_3, a_4, v_5, a_6, v_7, x_361, v_73, v_74, v_75, v_76, v_13, v_14, v_15, 1, a_17, a_18, a_19, a_20, a_21, a_22, a_23, a_24, v_25, v_90, v_27, v_92, v_29, a_30, v_31, a_32, a_33, v_34, v_35, a_36, v_37, a_38, a_39, v_40, v_105, a_42, a_43, a_44, v_45, a_46, a_47, a_48, a_49, a_50, a_51, a_52, a_53, a_54, v_55, v_120, a_57, rfl, ⟨ma_2, ka_2⟩, ⟨ma_3, ka_3⟩, ⟨ma_4, ka_4⟩, (by constructor <;> omega), ⟨ma_6, ka_6⟩, (by constructor <;> omega), (by constructor <;> omega), (by constructor <;> omega), (by constructor <;> omega), (by constructor <;> omega), ⟨ma_17, ka_17⟩, ⟨ma_18, ka_18⟩, ⟨ma_19, ka_19⟩, ⟨ma_20, ka_20⟩, ⟨ma_21, ka_21⟩, ⟨ma_22, ka_22⟩, ⟨ma_23, ka_23⟩, ⟨ma_24, ka_24⟩, (by constructor <;> omega), (by constructor <;> omega), (by constructor <;> omega), ⟨ma_30, ka_30⟩, (by constructor <;> omega), ⟨ma_32, ka_32⟩, ⟨ma_33, ka_33⟩, (by constructor <;> omega), ⟨ma_36, ka_36⟩, (by constructor <;> omega), ⟨ma_38, ka_38⟩, ⟨ma_39, ka_39⟩, (by constructor <;> omega), ⟨ma_42, ka_42⟩, ⟨ma_43, ka_43⟩, ⟨ma_44, ka_44⟩, (by constructor <;> omega), ⟨ma_46, ka_46⟩, ⟨ma_47, ka_47⟩, ⟨ma_48, ka_48⟩, ⟨ma_49, ka_49⟩, ⟨ma_50, ka_50⟩, ⟨ma_51, ka_51⟩, ⟨ma_52, ka_52⟩, ⟨ma_53, ka_53⟩, ⟨ma_54, ka_54⟩, (by constructor <;> omega), ⟨ma_57, ka_57⟩⟩)
      have hfr0 : ∀ b, kd b ≠ 12 → f_363 b = f b := fun b q12 => (congrFun ef_363 b).trans ((up_ne (fun e9 => q12 (by rw [e9]; exact ko0))).trans (hfr0 b q12))
      have hrA12 : ∀ b, kd b = 12 → ∀ j, fldR (f_363 b) j = fldR (f b) j := fun b kb j => ((congrArg (fun x => fldR x j) (congrFun ef_363 b)).trans (fra_up (fun j => by rw [hfo_359]; exact fr_set (k := 6) rfl rfl j) j b)).trans (hrA12 b kb j)
      have hfA12 : ∀ b, kd b = 12 → ∀ j, j ≠ 6 → j ≠ 7 → j ≠ 8 → j ≠ 14 → fldI (f_363 b) j = fldI (f b) j := fun b kb j n6 n7 n8 n14 => ((congrArg (fun x => fldI x j) (congrFun ef_363 b)).trans (fia_up (fun h9 => by rw [hfo_359]; exact fi_set (k := 6) rfl h9) n6 b)).trans (hfA12 b kb j n6 n7 n8 n14)
      have hfo_364 : f_363 o0 = .inr (12, [.ref a_2, .ref a_3, .ref a_4, .int v_5, .ref a_6, .int v_7, .int x_361, .int v_73, .int v_74, .int v_75, .int v_76, .int v_13, .int v_14, .int v_15, .int 1, .ref a_17, .ref a_18, .ref a_19, .ref a_20, .ref a_21, .ref a_22, .ref a_23, .ref a_24, .int v_25, .int v_90, .int v_27, .int v_92, .int v_29, .ref a_30, .int v_31, .ref a_32, .ref a_33, .int v_34, .int v_35, .ref a_36, .int v_37, .ref a_38, .ref a_39, .int v_40, .int v_105, .ref a_42, .ref a_43, .ref a_44, .int v_45, .ref a_46, .ref a_47, .ref a_48, .ref a_49, .ref a_50, .ref a_51, .ref a_52, .ref a_53, .ref a_54, .int v_55, .int v_120, .ref a_57]) := by rw [ef_363]; exact up_self
      refine lv_iconst (v := 1) hx hb dX12_takesX_139 (by decide) ?_
      exact W.zret (v := 1) (ty := .boolean) hx hb hr rfl (fun t ht hW => ⟨⟨1, f_363, rfl, ⟨hG, (by decide), hfr0, hrA12, hfA12, (by intro w6 z6 e6 d6; rw [hfo_1] at e6; rw [hfo_364] at d6; obtain rfl := Option.some.inj e6; obtain rfl := Option.some.inj d6; (try rw [ti_1]) <;> omega)⟩, by rw [ht]; exact hP, va_K.moved hW.alike hK, pl_in hD⟩, hS.F ht⟩) hS.2.2 dX12_takesX_140
  · skip
    rw [← Int32.toInt_inj, ti_63] at c_122
    refine lv_aload_n hx hb dX12_takesX_11 rfl (lv_at hl 1 rfl) ?_
    refine lv_sipush (v := 511) hx hb dX12_takesX_12 (by decide) ?_
    refine tk_putP (D := (dC, dI)) (ci := 12) (v := .int 511) (ty := .int) (C := RX12) (T := TX12) (N := 56) hx hb hU inlX12 tyX12 tyX12_ok nmX12 hown hK hP hD hS mo0 hfo_65 rfl 14 (by decide) (hU _ wd_654) (fun _ h9 => h9) rfl (by decide +kernel) rfl rfl (Nat.le_of_ble_eq_true rfl) dX12_takesX_15 (fun H locs hP hD hS => ?_)
    obtain ⟨f_366, ef_366⟩ : ∃ y : Nat → va_E, y = va_up f_59 o0 (.inr (12, [.ref a_2, .ref a_3, .ref a_4, .int v_5, .ref a_6, .int v_7, .int v_72, .int v_73, .int v_74, .int v_75, .int v_76, .int v_13, .int v_14, .int v_15, .int 511, .ref a_17, .ref a_18, .ref a_19, .ref a_20, .ref a_21, .ref a_22, .ref a_23, .ref a_24, .int v_25, .int v_90, .int v_27, .int v_92, .int v_29, .ref a_30, .int v_31, .ref a_32, .ref a_33, .int v_34, .int v_35, .ref a_36, .int v_37, .ref a_38, .ref a_39, .int v_40, .int v_105, .ref a_42, .ref a_43, .ref a_44, .int v_45, .ref a_46, .ref a_47, .ref a_48, .ref a_49, .ref a_50, .ref a_51, .ref a_52, .ref a_53, .ref a_54, .int v_55, .int v_120, .ref a_57])) := ⟨_, rfl⟩
    have hP : va_P (dC, dI) vwCl (va_pl L f_366) H := by rw [ef_366]; exact hP
    have hD : va_D (fun q => q ∈ L) (va_pl L f_366) := by rw [ef_366]; exact hD
    have hG : GI (okc cI cL cZ cR cG cH L kd) kd L f_366 := by rw [ef_366]; exact hG.set o0 (mk_12 ko0 ⟨a_2, a_3, a_4, v_5, a_6, v_7, v_72, v_73, v_74, v_75, v_76, v_13, v_14, v_15, 511, a_17, a_18, a_19, a_20, a_21, a_22, a_23, a_24, v_25, v_90, v_27, v_92, v_29, a_30, v_31, a_32, a_33, v_34, v_35, a_36, v_37, a_38, a_39, v_40, v_105, a_42, a_43, a_44, v_45, a_46, a_47, a_48, a_49, a_50, a_51, a_52, a_53, a_54, v_55, v_120, a_57, rfl, ⟨ma_2, ka_2⟩, ⟨ma_3, ka_3⟩, ⟨ma_4, ka_4⟩, (by constructor <;> omega), ⟨ma_6, ka_6⟩, (by constructor <;> omega), (by constructor <;> omega), (by constructor <;> omega), (by constructor <;> omega), (by constructor <;> omega), ⟨ma_17, ka_17⟩, ⟨ma_18, ka_18⟩, ⟨ma_19, ka_19⟩, ⟨ma_20, ka_20⟩, ⟨ma_21, ka_21⟩, ⟨ma_22, ka_22⟩, ⟨ma_23, ka_23⟩, ⟨ma_24, ka_24⟩, (by constructor <;> omega), (by constructor <;> omega), (by constructor <;> omega), ⟨ma_30, ka_30⟩, (by constructor <;> omega), ⟨ma_32, ka_32⟩, ⟨ma_33, ka_33⟩, (by constructor <;> omega), ⟨ma_36, ka_36⟩, (by constructor <;> omega), ⟨ma_38, ka_38⟩, ⟨ma_39, ka_39⟩, (by constructor <;> omega), ⟨ma_42, ka_42⟩, ⟨ma_43, ka_43⟩, ⟨ma_44, ka_44⟩, (by constructor <;> omega), ⟨ma_46, ka_46⟩, ⟨ma_47, ka_47⟩, ⟨ma_48, ka_48⟩, ⟨ma_49, ka_49⟩, ⟨ma_50, ka_50⟩, ⟨ma_51, ka_51⟩, ⟨ma_52, ka_52⟩, ⟨ma_53, ka_53⟩, ⟨ma_54, ka_54⟩, (by constructor <;> omega), ⟨ma_57, ka_57⟩⟩)
    have hfr0 : ∀ b, kd b ≠ 12 → f_366 b = f b := fun b q12 => (congrFun ef_366 b).trans ((up_ne (fun e9 => q12 (by rw [e9]; exact ko0))).trans (hfr0 b q12))
    have hrA12 : ∀ b, kd b = 12 → ∀ j, fldR (f_366 b) j = fldR (f b) j := fun b kb j => ((congrArg (fun x => fldR x j) (congrFun ef_366 b)).trans (fra_up (fun j => by rw [hfo_65]; exact fr_set (k := 14) rfl rfl j) j b)).trans (hrA12 b kb j)
    have hfA12 : ∀ b, kd b = 12 → ∀ j, j ≠ 6 → j ≠ 7 → j ≠ 8 → j ≠ 14 → fldI (f_366 b) j = fldI (f b) j := fun b kb j n6 n7 n8 n14 => ((congrArg (fun x => fldI x j) (congrFun ef_366 b)).trans (fia_up (fun h9 => by rw [hfo_65]; exact fi_set (k := 14) rfl h9) n14 b)).trans (hfA12 b kb j n6 n7 n8 n14)
    have hfo_367 : f_366 o0 = .inr (12, [.ref a_2, .ref a_3, .ref a_4, .int v_5, .ref a_6, .int v_7, .int v_72, .int v_73, .int v_74, .int v_75, .int v_76, .int v_13, .int v_14, .int v_15, .int 511, .ref a_17, .ref a_18, .ref a_19, .ref a_20, .ref a_21, .ref a_22, .ref a_23, .ref a_24, .int v_25, .int v_90, .int v_27, .int v_92, .int v_29, .ref a_30, .int v_31, .ref a_32, .ref a_33, .int v_34, .int v_35, .ref a_36, .int v_37, .ref a_38, .ref a_39, .int v_40, .int v_105, .ref a_42, .ref a_43, .ref a_44, .int v_45, .ref a_46, .ref a_47, .ref a_48, .ref a_49, .ref a_50, .ref a_51, .ref a_52, .ref a_53, .ref a_54, .int v_55, .int v_120, .ref a_57]) := by rw [ef_366]; exact up_self
    refine lv_goto (tgt := 129) hx hb dX12_takesX_18 (by decide) ?_
    have hclc_368 : (0 ≤ v_72.toInt ∧ v_72.toInt ≤ 599) := by constructor <;> omega
    refine lv_aload_n hx hb dX12_takesX_129 rfl (lv_at hl 1 rfl) ?_
    refine lv_dup hx hb dX12_takesX_130 rfl ?_
    refine tk_getP (D := (dC, dI)) (ci := 12) (v := .int v_72) (C := RX12) (T := TX12) (N := 56) hx hb hU inlX12 hown hK hP mo0 hfo_367 rfl 6 (by decide) (hU _ wd_566) (fun _ h9 => h9) rfl dX12_takesX_131 ?_
    refine lv_iconst (v := 1) hx hb dX12_takesX_134 (by decide) ?_
    refine lv_iadd hx hb dX12_takesX_135 ?_
    refine lv_topi (fun x_369 ex_369 => ?_)
    have hx_369 : x_369.toInt = v_72.toInt + 1 := by rw [ex_369, ad_I (by rw [ti_1]; omega) (by rw [ti_1]; omega), ti_1]
    have bx_369 : (1 ≤ x_369.toInt ∧ x_369.toInt ≤ 600) := by constructor <;> omega
    refine tk_putP (D := (dC, dI)) (ci := 12) (v := .int x_369) (ty := .int) (C := RX12) (T := TX12) (N := 56) hx hb hU inlX12 tyX12 tyX12_ok nmX12 hown hK hP hD hS mo0 hfo_367 rfl 6 (by decide) (hU _ wd_566) (fun _ h9 => h9) rfl (by decide +kernel) rfl rfl (Nat.le_of_ble_eq_true rfl) dX12_takesX_136 (fun H locs hP hD hS => ?_)
    obtain ⟨f_371, ef_371⟩ : ∃ y : Nat → va_E, y = va_up f_366 o0 (.inr (12, [.ref a_2, .ref a_3, .ref a_4, .int v_5, .ref a_6, .int v_7, .int x_369, .int v_73, .int v_74, .int v_75, .int v_76, .int v_13, .int v_14, .int v_15, .int 511, .ref a_17, .ref a_18, .ref a_19, .ref a_20, .ref a_21, .ref a_22, .ref a_23, .ref a_24, .int v_25, .int v_90, .int v_27, .int v_92, .int v_29, .ref a_30, .int v_31, .ref a_32, .ref a_33, .int v_34, .int v_35, .ref a_36, .int v_37, .ref a_38, .ref a_39, .int v_40, .int v_105, .ref a_42, .ref a_43, .ref a_44, .int v_45, .ref a_46, .ref a_47, .ref a_48, .ref a_49, .ref a_50, .ref a_51, .ref a_52, .ref a_53, .ref a_54, .int v_55, .int v_120, .ref a_57])) := ⟨_, rfl⟩
    have hP : va_P (dC, dI) vwCl (va_pl L f_371) H := by rw [ef_371]; exact hP
    have hD : va_D (fun q => q ∈ L) (va_pl L f_371) := by rw [ef_371]; exact hD
    have hG : GI (okc cI cL cZ cR cG cH L kd) kd L f_371 := by rw [ef_371]; exact hG.set o0 (mk_12 ko0 ⟨a_2, a_3, a_4, v_5, a_6, v_7, x_369, v_73, v_74, v_75, v_76, v_13, v_14, v_15, 511, a_17, a_18, a_19, a_20, a_21, a_22, a_23, a_24, v_25, v_90, v_27, v_92, v_29, a_30, v_31, a_32, a_33, v_34, v_35, a_36, v_37, a_38, a_39, v_40, v_105, a_42, a_43, a_44, v_45, a_46, a_47, a_48, a_49, a_50, a_51, a_52, a_53, a_54, v_55, v_120, a_57, rfl, ⟨ma_2, ka_2⟩, ⟨ma_3, ka_3⟩, ⟨ma_4, ka_4⟩, (by constructor <;> omega), ⟨ma_6, ka_6⟩, (by constructor <;> omega), (by constructor <;> omega), (by constructor <;> omega), (by constructor <;> omega), (by constructor <;> omega), ⟨ma_17, ka_17⟩, ⟨ma_18, ka_18⟩, ⟨ma_19, ka_19⟩, ⟨ma_20, ka_20⟩, ⟨ma_21, ka_21⟩, ⟨ma_22, ka_22⟩, ⟨ma_23, ka_23⟩, ⟨ma_24, ka_24⟩, (by constructor <;> omega), (by constructor <;> omega), (by constructor <;> omega), ⟨ma_30, ka_30⟩, (by constructor <;> omega), ⟨ma_32, ka_32⟩, ⟨ma_33, ka_33⟩, (by constructor <;> omega), ⟨ma_36, ka_36⟩, (by constructor <;> omega), ⟨ma_38, ka_38⟩, ⟨ma_39, ka_39⟩, (by constructor <;> omega), ⟨ma_42, ka_42⟩, ⟨ma_43, ka_43⟩, ⟨ma_44, ka_44⟩, (by constructor <;> omega), ⟨ma_46, ka_46⟩, ⟨ma_47, ka_47⟩, ⟨ma_48, ka_48⟩, ⟨ma_49, ka_49⟩, ⟨ma_50, ka_50⟩, ⟨ma_51, ka_51⟩, ⟨ma_52, ka_52⟩, ⟨ma_53, ka_53⟩, ⟨ma_54, ka_54⟩, (by constructor <;> omega), ⟨ma_57, ka_57⟩⟩)
    have hfr0 : ∀ b, kd b ≠ 12 → f_371 b = f b := fun b q12 => (congrFun ef_371 b).trans ((up_ne (fun e9 => q12 (by rw [e9]; exact ko0))).trans (hfr0 b q12))
    have hrA12 : ∀ b, kd b = 12 → ∀ j, fldR (f_371 b) j = fldR (f b) j := fun b kb j => ((congrArg (fun x => fldR x j) (congrFun ef_371 b)).trans (fra_up (fun j => by rw [hfo_367]; exact fr_set (k := 6) rfl rfl j) j b)).trans (hrA12 b kb j)
    have hfA12 : ∀ b, kd b = 12 → ∀ j, j ≠ 6 → j ≠ 7 → j ≠ 8 → j ≠ 14 → fldI (f_371 b) j = fldI (f b) j := fun b kb j n6 n7 n8 n14 => ((congrArg (fun x => fldI x j) (congrFun ef_371 b)).trans (fia_up (fun h9 => by rw [hfo_367]; exact fi_set (k := 6) rfl h9) n6 b)).trans (hfA12 b kb j n6 n7 n8 n14)
    have hfo_372 : f_371 o0 = .inr (12, [.ref a_2, .ref a_3, .ref a_4, .int v_5, .ref a_6, .int v_7, .int x_369, .int v_73, .int v_74, .int v_75, .int v_76, .int v_13, .int v_14, .int v_15, .int 511, .ref a_17, .ref a_18, .ref a_19, .ref a_20, .ref a_21, .ref a_22, .ref a_23, .ref a_24, .int v_25, .int v_90, .int v_27, .int v_92, .int v_29, .ref a_30, .int v_31, .ref a_32, .ref a_33, .int v_34, .int v_35, .ref a_36, .int v_37, .ref a_38, .ref a_39, .int v_40, .int v_105, .ref a_42, .ref a_43, .ref a_44, .int v_45, .ref a_46, .ref a_47, .ref a_48, .ref a_49, .ref a_50, .ref a_51, .ref a_52, .ref a_53, .ref a_54, .int v_55, .int v_120, .ref a_57]) := by rw [ef_371]; exact up_self
    refine lv_iconst (v := 1) hx hb dX12_takesX_139 (by decide) ?_
    exact W.zret (v := 1) (ty := .boolean) hx hb hr rfl (fun t ht hW => ⟨⟨1, f_371, rfl, ⟨hG, (by decide), hfr0, hrA12, hfA12, (by intro w6 z6 e6 d6; rw [hfo_1] at e6; rw [hfo_372] at d6; obtain rfl := Option.some.inj e6; obtain rfl := Option.some.inj d6; (try rw [ti_1]) <;> omega)⟩, by rw [ht]; exact hP, va_K.moved hW.alike hK, pl_in hD⟩, hS.F ht⟩) hS.2.2 dX12_takesX_140
