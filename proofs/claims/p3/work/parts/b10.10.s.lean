set_option maxHeartbeats 8000000 in
set_option maxRecDepth 100000 in
theorem s_X12_fault_k12 (l : Launch) (D : va_G) (cI cL cZ cR cG cH : ClassId) (Z : zT) (kd : Nat → Nat) (L : List Nat) (f : Nat → va_E) (hG : GI (okc cI cL cZ cR cG cH L kd) kd L f) (o0 : Nat) (mo0 : o0 ∈ L) (ko0 : kd o0 = 12) (p1 : Int32) : mPI l D cI cL cZ cR cG cH Z yX12_fault cX12_fault 2 (some .int) 0 0 [.ref o0, .int p1] L f (fun (r : Int32) (f9 : Nat → va_E) => f = f9 ∧ ((-2147483648) ≤ r.toInt ∧ r.toInt ≤ 2147483647)) := by
  obtain ⟨dC, dI⟩ := D
  refine Met.ofW (cc := cX12_fault) (maxL := 2) (ret := (some .int)) (by decide) rfl ?_
  intro p e s m args below meth c s₁ B hml hv
  obtain ⟨rfl, hP, hK, hD0, hN, hZ⟩ := hv
  have hx := B.exec
  have hb := B.bytes
  have hr := B.returns
  have hU : ∀ w ∈ wsU, w.before _ s = true := fun w h => atoms_spec (ws := wU yX12_fault cX12_fault 2 (some .int)) B.pre w (List.mem_cons_of_mem _ h)
  have hown : s.vm.findClass RX12 = some m.cls := findClass_of_methodNamed B.named
  have hlocks := B.notSynchronized
  have hD := pl_in hD0
  have hS : va_S (fun q => q ∈ L) s.heap s.heap [] := va_S.rf
  have hl := lv_entry ([.ref o0, .int p1]) (n := 2) (Nat.le_of_ble_eq_true rfl)
  rw [lg_entry_eq]
  generalize (lg_sl ([.ref o0, .int p1]) ++ List.replicate (2 - (lg_sl ([.ref o0, .int p1])).length) Slot.unset).toArray = ls at hl ⊢
  have hl : lv_has ls 2 [(0, .ref o0), (1, .int p1)] := hl
  have bp1 : ((-2147483648) ≤ p1.toInt ∧ p1.toInt ≤ 2147483647) := ⟨i32_lo _, i32_hi _⟩
  refine lv_iload_n hx hb dX12_fault_0 rfl (lv_at hl 1 rfl) ?_
  refine lv_if_ne (tgt := 11) hx hb dX12_fault_1 (by decide) (fun c_1 => ?_) (fun c_1 => ?_)
  · skip
    rw [← Int32.toInt_inj, ti_0] at c_1
    refine lv_iload_n hx hb dX12_fault_11 rfl (lv_at hl 1 rfl) ?_
    refine lv_iconst (v := 1) hx hb dX12_fault_12 (by decide) ?_
    refine lv_icmp_ne (tgt := 23) hx hb dX12_fault_13 (by decide) (fun c_2 => ?_) (fun c_2 => ?_)
    · skip
      rw [← Int32.toInt_inj, ti_1] at c_2
      refine lv_iconst (v := (-1)) hx hb dX12_fault_23 (by decide) ?_
      exact W.iret (v := (-1)) hx hb hr (fun t ht hW => ⟨⟨(-1), f, rfl, ⟨rfl, (by decide)⟩, by rw [ht]; exact hP, va_K.moved hW.alike hK, pl_in hD⟩, hS.F ht⟩) hS.2.2 dX12_fault_24
    · skip
      rw [← Int32.toInt_inj, ti_1] at c_2
      refine lv_aload_n hx hb dX12_fault_16 rfl (lv_at hl 0 rfl) ?_
      obtain ⟨a_3, a_4, a_5, v_6, a_7, v_8, v_9, v_10, v_11, v_12, v_13, v_14, v_15, v_16, v_17, a_18, a_19, a_20, a_21, a_22, a_23, a_24, a_25, v_26, v_27, v_28, v_29, v_30, a_31, v_32, a_33, a_34, v_35, v_36, a_37, v_38, a_39, a_40, v_41, v_42, a_43, a_44, a_45, v_46, a_47, a_48, a_49, a_50, a_51, a_52, a_53, a_54, a_55, v_56, v_57, a_58, hfo_59, fa_60⟩ := un12 (hG _ mo0) ko0
      have bv_13 : ((-2147483648) ≤ v_13.toInt ∧ v_13.toInt ≤ 2147483647) := ⟨i32_lo _, i32_hi _⟩
      refine tk_getP (D := (dC, dI)) (ci := 12) (v := .int v_13) (C := RX12) (T := TX12) (N := 56) hx hb hU inlX12 hown hK hP mo0 hfo_59 rfl 10 (by decide) (hU _ wd_173) (fun _ h9 => h9) rfl dX12_fault_17 ?_
      refine lv_goto (tgt := 24) hx hb dX12_fault_20 (by decide) ?_
      exact W.iret (v := v_13) hx hb hr (fun t ht hW => ⟨⟨v_13, f, rfl, ⟨rfl, (by constructor <;> omega)⟩, by rw [ht]; exact hP, va_K.moved hW.alike hK, pl_in hD⟩, hS.F ht⟩) hS.2.2 dX12_fault_24
  · skip
    rw [← Int32.toInt_inj, ti_0] at c_1
    refine lv_aload_n hx hb dX12_fault_4 rfl (lv_at hl 0 rfl) ?_
    obtain ⟨a_61, a_62, a_63, v_64, a_65, v_66, v_67, v_68, v_69, v_70, v_71, v_72, v_73, v_74, v_75, a_76, a_77, a_78, a_79, a_80, a_81, a_82, a_83, v_84, v_85, v_86, v_87, v_88, a_89, v_90, a_91, a_92, v_93, v_94, a_95, v_96, a_97, a_98, v_99, v_100, a_101, a_102, a_103, v_104, a_105, a_106, a_107, a_108, a_109, a_110, a_111, a_112, a_113, v_114, v_115, a_116, hfo_117, fa_118⟩ := un12 (hG _ mo0) ko0
    have bv_70 : ((-2147483648) ≤ v_70.toInt ∧ v_70.toInt ≤ 2147483647) := ⟨i32_lo _, i32_hi _⟩
    refine tk_getP (D := (dC, dI)) (ci := 12) (v := .int v_70) (C := RX12) (T := TX12) (N := 56) hx hb hU inlX12 hown hK hP mo0 hfo_117 rfl 9 (by decide) (hU _ wd_568) (fun _ h9 => h9) rfl dX12_fault_5 ?_
    refine lv_goto (tgt := 24) hx hb dX12_fault_8 (by decide) ?_
    exact W.iret (v := v_70) hx hb hr (fun t ht hW => ⟨⟨v_70, f, rfl, ⟨rfl, (by constructor <;> omega)⟩, by rw [ht]; exact hP, va_K.moved hW.alike hK, pl_in hD⟩, hS.F ht⟩) hS.2.2 dX12_fault_24
set_option maxHeartbeats 8000000 in
set_option maxRecDepth 100000 in
theorem s_X12_allRules_k12 (l : Launch) (D : va_G) (cI cL cZ cR cG cH : ClassId) (Z : zT) (kd : Nat → Nat) (L : List Nat) (f : Nat → va_E) (hG : GI (okc cI cL cZ cR cG cH L kd) kd L f) (o0 : Nat) (mo0 : o0 ∈ L) (ko0 : kd o0 = 12) : mPI l D cI cL cZ cR cG cH Z yX12_allRules cX12_allRules 1 (some .int) 0 0 [.ref o0] L f (fun (r : Int32) (f9 : Nat → va_E) => f = f9 ∧ (0 ≤ r.toInt ∧ r.toInt ≤ 255)) := by
  obtain ⟨dC, dI⟩ := D
  refine Met.ofW (cc := cX12_allRules) (maxL := 1) (ret := (some .int)) (by decide) rfl ?_
  intro p e s m args below meth c s₁ B hml hv
  obtain ⟨rfl, hP, hK, hD0, hN, hZ⟩ := hv
  have hx := B.exec
  have hb := B.bytes
  have hr := B.returns
  have hU : ∀ w ∈ wsU, w.before _ s = true := fun w h => atoms_spec (ws := wU yX12_allRules cX12_allRules 1 (some .int)) B.pre w (List.mem_cons_of_mem _ h)
  have hown : s.vm.findClass RX12 = some m.cls := findClass_of_methodNamed B.named
  have hlocks := B.notSynchronized
  have hD := pl_in hD0
  have hS : va_S (fun q => q ∈ L) s.heap s.heap [] := va_S.rf
  have hl := lv_entry ([.ref o0]) (n := 1) (Nat.le_of_ble_eq_true rfl)
  rw [lg_entry_eq]
  generalize (lg_sl ([.ref o0]) ++ List.replicate (1 - (lg_sl ([.ref o0])).length) Slot.unset).toArray = ls at hl ⊢
  have hl : lv_has ls 1 [(0, .ref o0)] := hl
  refine lv_iconst (v := 1) hx hb dX12_allRules_0 (by decide) ?_
  refine lv_aload_n hx hb dX12_allRules_1 rfl (lv_at hl 0 rfl) ?_
  obtain ⟨a_1, a_2, a_3, v_4, a_5, v_6, v_7, v_8, v_9, v_10, v_11, v_12, v_13, v_14, v_15, a_16, a_17, a_18, a_19, a_20, a_21, a_22, a_23, v_24, v_25, v_26, v_27, v_28, a_29, v_30, a_31, a_32, v_33, v_34, a_35, v_36, a_37, a_38, v_39, v_40, a_41, a_42, a_43, v_44, a_45, a_46, a_47, a_48, a_49, a_50, a_51, a_52, a_53, v_54, v_55, a_56, hfo_57, fa_58⟩ := un12 (hG _ mo0) ko0
  obtain ⟨ma_1, ka_1⟩ := fa12_0 fa_58
  refine tk_getP (D := (dC, dI)) (ci := 12) (v := .ref a_1) (C := RX12) (T := TX12) (N := 56) hx hb hU inlX12 hown hK hP mo0 hfo_57 rfl 0 (by decide) (hU _ wd_169) (fun _ h9 => h9) rfl dX12_allRules_2 ?_
  refine lv_bipush (v := 17) hx hb dX12_allRules_5 (by decide) ?_
  obtain ⟨g_60, hfo_59, hbg_60⟩ := un_575 (hG _ ma_1) ka_1
  refine tk_ildP hx hb hK hP 0 ma_1 hfo_59 rfl (vp_in_nI (n := 17) (by decide) (by decide)) dX12_allRules_7 ?_
  refine lv_topi (fun x_61 ex_61 => ?_)
  have bx_61 : (0 ≤ x_61.toInt ∧ x_61.toInt ≤ 8) := by rw [ex_61]; exact hbg_60.2.2.1 _ (by decide) (by decide) (by decide)
  refine lv_ishl hx hb dX12_allRules_8 ?_
  refine lv_topi (fun x_62 ex_62 => ?_)
  have bx_62 : (1 ≤ x_62.toInt ∧ x_62.toInt ≤ 256) := by rw [ex_62]; exact sh_8 (by constructor <;> omega)
  refine lv_iconst (v := 1) hx hb dX12_allRules_9 (by decide) ?_
  refine lv_isub hx hb dX12_allRules_10 ?_
  refine lv_topi (fun x_63 ex_63 => ?_)
  have hx_63 : x_63.toInt = x_62.toInt - 1 := by rw [ex_63, sb_I (by rw [ti_1]; omega) (by rw [ti_1]; omega), ti_1]
  have bx_63 : (0 ≤ x_63.toInt ∧ x_63.toInt ≤ 255) := by constructor <;> omega
  exact W.iret (v := x_63) hx hb hr (fun t ht hW => ⟨⟨x_63, f, rfl, ⟨rfl, (by constructor <;> omega)⟩, by rw [ht]; exact hP, va_K.moved hW.alike hK, pl_in hD⟩, hS.F ht⟩) hS.2.2 dX12_allRules_11
set_option maxHeartbeats 8000000 in
set_option maxRecDepth 100000 in
theorem s_X12_use_k12 (l : Launch) (D : va_G) (cI cL cZ cR cG cH : ClassId) (Z : zT) (kd : Nat → Nat) (L : List Nat) (f : Nat → va_E) (hG : GI (okc cI cL cZ cR cG cH L kd) kd L f) (o0 : Nat) (mo0 : o0 ∈ L) (ko0 : kd o0 = 12) (p1 : Int32) : mPI l D cI cL cZ cR cG cH Z yX12_use cX12_use 2 (some .boolean) 1 22 [.ref o0, .int p1] L f (fun (r : Int32) (f9 : Nat → va_E) => GI (okc cI cL cZ cR cG cH L kd) kd L f9 ∧ (0 ≤ r.toInt ∧ r.toInt ≤ 1) ∧ (∀ b, kd b ≠ 575 → f9 b = f b)) := by
  obtain ⟨dC, dI⟩ := D
  refine Met.ofW (cc := cX12_use) (maxL := 2) (ret := (some .boolean)) (by decide) rfl ?_
  intro p e s m args below meth c s₁ B hml hv
  obtain ⟨rfl, hP, hK, hD0, hN, hZ⟩ := hv
  have hx := B.exec
  have hb := B.bytes
  have hr := B.returns
  have hU : ∀ w ∈ wsU, w.before _ s = true := fun w h => atoms_spec (ws := wU yX12_use cX12_use 2 (some .boolean)) B.pre w (List.mem_cons_of_mem _ h)
  have hown : s.vm.findClass RX12 = some m.cls := findClass_of_methodNamed B.named
  have hlocks := B.notSynchronized
  have hD := pl_in hD0
  have hS : va_S (fun q => q ∈ L) s.heap s.heap [] := va_S.rf
  have hl := lv_entry ([.ref o0, .int p1]) (n := 2) (Nat.le_of_ble_eq_true rfl)
  rw [lg_entry_eq]
  generalize (lg_sl ([.ref o0, .int p1]) ++ List.replicate (2 - (lg_sl ([.ref o0, .int p1])).length) Slot.unset).toArray = ls at hl ⊢
  have hl : lv_has ls 2 [(0, .ref o0), (1, .int p1)] := hl
  have bp1 : ((-2147483648) ≤ p1.toInt ∧ p1.toInt ≤ 2147483647) := ⟨i32_lo _, i32_hi _⟩
  have hfr0 : ∀ b, kd b ≠ 575 → f b = f b := fun _ _ => rfl
  refine lv_iload_n hx hb dX12_use_0 rfl (lv_at hl 1 rfl) ?_
  refine lv_iconst (v := 0) hx hb dX12_use_1 (by decide) ?_
  refine lv_aload_n hx hb dX12_use_2 rfl (lv_at hl 0 rfl) ?_
  obtain ⟨a_1, a_2, a_3, v_4, a_5, v_6, v_7, v_8, v_9, v_10, v_11, v_12, v_13, v_14, v_15, a_16, a_17, a_18, a_19, a_20, a_21, a_22, a_23, v_24, v_25, v_26, v_27, v_28, a_29, v_30, a_31, a_32, v_33, v_34, a_35, v_36, a_37, a_38, v_39, v_40, a_41, a_42, a_43, v_44, a_45, a_46, a_47, a_48, a_49, a_50, a_51, a_52, a_53, v_54, v_55, a_56, hfo_57, fa_58⟩ := un12 (hG _ mo0) ko0
  obtain ⟨ma_1, ka_1⟩ := fa12_0 fa_58
  refine tk_ViP (As := []) (rest := [.int 0, .int p1]) (n := 0) hx hb hml hown hU hN hZ (s_X12_allRules_k12 l (dC, dI) cI cL cZ cR cG cH Z kd L f hG o0 mo0 ko0) wd_686 wd_687 wd_688 wd_5 wd_689 (by decide +kernel) ⟨Nat.le_of_ble_eq_true rfl, Nat.le_of_ble_eq_true rfl⟩ hK hP hD hS mo0 hfo_57 12 rfl rfl rfl hl.1 rfl (Nat.le_of_ble_eq_true rfl) dX12_use_3 ⟨Nat.le_of_ble_eq_true rfl, Nat.le_of_ble_eq_true rfl⟩ (fun x_59 f_60 H locs hw hP hD hS => ?_)
  obtain ⟨rfl, bx_59⟩ := hw
  refine tk_SiP (As := [.int p1, .int 0, .int x_59]) (rest := []) (n := 3) hx hb hml hown hU hN hZ (s_X12_isIn l (dC, dI) cI cL cZ cR cG cH Z kd L f hG p1 0 x_59) wd_227 wd_228 wd_5 wd_229 (by decide +kernel) ⟨Nat.le_of_ble_eq_true rfl, Nat.le_of_ble_eq_true rfl⟩ hK hP hD hS rfl hl.1 rfl (Nat.le_of_ble_eq_true rfl) dX12_use_6 ⟨Nat.le_of_ble_eq_true rfl, Nat.le_of_ble_eq_true rfl⟩ (fun x_62 f_63 H locs hw hP hD hS => ?_)
  obtain ⟨rfl, bx_62, relx_62⟩ := hw
  try rw [ti_0] at relx_62
  refine lv_if_ne (tgt := 14) hx hb dX12_use_9 (by decide) (fun c_65 => ?_) (fun c_65 => ?_)
  · skip
    rw [← Int32.toInt_inj, ti_0] at c_65
    refine lv_aload_n hx hb dX12_use_14 rfl (lv_at hl 0 rfl) ?_
    refine tk_getP (D := (dC, dI)) (ci := 12) (v := .ref a_1) (C := RX12) (T := TX12) (N := 56) hx hb hU inlX12 hown hK hP mo0 hfo_57 rfl 0 (by decide) (hU _ wd_169) (fun _ h9 => h9) rfl dX12_use_15 ?_
    refine lv_bipush (v := 40) hx hb dX12_use_18 (by decide) ?_
    refine lv_iload_n hx hb dX12_use_20 rfl (lv_at hl 1 rfl) ?_
    obtain ⟨g_67, hfo_66, hbg_67⟩ := un_575 (hG _ ma_1) ka_1
    refine tk_istP hx hb hK hP hD hS 0 ma_1 hfo_66 rfl (vp_in_nI (n := 40) (by decide) (by decide)) dX12_use_21 (fun H locs hP hD hS => ?_)
    have hc9 : ((Int32.toNatClampNeg 40 : Nat) : Int) = 40 := by decide
    obtain ⟨f_69, ef_69⟩ : ∃ y : Nat → va_E, y = va_up f a_1 (.inl (cI, 1560, .inl (upd g_67 (Int32.toNatClampNeg 40) p1))) := ⟨_, rfl⟩
    have hP : va_P (dC, dI) vwCl (va_pl L f_69) H := by rw [ef_69]; exact hP
    have hD : va_D (fun q => q ∈ L) (va_pl L f_69) := by rw [ef_69]; exact hD
    have hG : GI (okc cI cL cZ cR cG cH L kd) kd L f_69 := by rw [ef_69]; exact hG.set a_1 (mk_575 ka_1 ⟨_, rfl, hbg_67.1.up (fun h1 h2 h3 => by exfalso; omega), hbg_67.2.1.up (fun h1 h2 h3 => by exfalso; omega), hbg_67.2.2.1.up (fun h1 h2 h3 => by exfalso; omega), hbg_67.2.2.2.1.up (fun h1 h2 h3 => by exfalso; omega), hbg_67.2.2.2.2.1.up (fun h1 h2 h3 => by exfalso; omega), hbg_67.2.2.2.2.2.1.up (fun h1 h2 h3 => by exfalso; omega), hbg_67.2.2.2.2.2.2.1.up (fun h1 h2 h3 => by constructor <;> omega), hbg_67.2.2.2.2.2.2.2.1.up (fun h1 h2 h3 => by exfalso; omega), hbg_67.2.2.2.2.2.2.2.2.1.up (fun h1 h2 h3 => by exfalso; omega), hbg_67.2.2.2.2.2.2.2.2.2.1.up (fun h1 h2 h3 => by exfalso; omega), hbg_67.2.2.2.2.2.2.2.2.2.2.1.up (fun h1 h2 h3 => by exfalso; omega), hbg_67.2.2.2.2.2.2.2.2.2.2.2.1.up (fun h1 h2 h3 => by exfalso; omega), hbg_67.2.2.2.2.2.2.2.2.2.2.2.2.1.up (fun h1 h2 h3 => by exfalso; omega), hbg_67.2.2.2.2.2.2.2.2.2.2.2.2.2.1.up (fun h1 h2 h3 => by exfalso; omega), hbg_67.2.2.2.2.2.2.2.2.2.2.2.2.2.2.1.up (fun h1 h2 h3 => by exfalso; omega), hbg_67.2.2.2.2.2.2.2.2.2.2.2.2.2.2.2.up (fun h1 h2 h3 => by exfalso; omega)⟩)
    have hfo_70 : f_69 o0 = .inr (12, [.ref a_1, .ref a_2, .ref a_3, .int v_4, .ref a_5, .int v_6, .int v_7, .int v_8, .int v_9, .int v_10, .int v_11, .int v_12, .int v_13, .int v_14, .int v_15, .ref a_16, .ref a_17, .ref a_18, .ref a_19, .ref a_20, .ref a_21, .ref a_22, .ref a_23, .int v_24, .int v_25, .int v_26, .int v_27, .int v_28, .ref a_29, .int v_30, .ref a_31, .ref a_32, .int v_33, .int v_34, .ref a_35, .int v_36, .ref a_37, .ref a_38, .int v_39, .int v_40, .ref a_41, .ref a_42, .ref a_43, .int v_44, .ref a_45, .ref a_46, .ref a_47, .ref a_48, .ref a_49, .ref a_50, .ref a_51, .ref a_52, .ref a_53, .int v_54, .int v_55, .ref a_56]) := by rw [ef_69, up_ne (kd_ne ka_1 ko0 (by decide))]; exact hfo_57
    have hfr0 : ∀ b, kd b ≠ 575 → f_69 b = f b := fun b q575 => (congrFun ef_69 b).trans ((up_ne (fun e9 => q575 (by rw [e9]; exact ka_1))).trans (hfr0 b q575))
    have hfo_71 : f_69 a_1 = .inl (cI, 1560, .inl (upd g_67 (Int32.toNatClampNeg 40) p1)) := by rw [ef_69]; exact up_self
    refine lv_iconst (v := 1) hx hb dX12_use_22 (by decide) ?_
    exact W.zret (v := 1) (ty := .boolean) hx hb hr rfl (fun t ht hW => ⟨⟨1, f_69, rfl, ⟨hG, (by decide), hfr0⟩, by rw [ht]; exact hP, va_K.moved hW.alike hK, pl_in hD⟩, hS.F ht⟩) hS.2.2 dX12_use_23
  · skip
    rw [← Int32.toInt_inj, ti_0] at c_65
    refine lv_iconst (v := 0) hx hb dX12_use_12 (by decide) ?_
    exact W.zret (v := 0) (ty := .boolean) hx hb hr rfl (fun t ht hW => ⟨⟨0, f, rfl, ⟨hG, (by decide), hfr0⟩, by rw [ht]; exact hP, va_K.moved hW.alike hK, pl_in hD⟩, hS.F ht⟩) hS.2.2 dX12_use_13
set_option maxHeartbeats 8000000 in
set_option maxRecDepth 100000 in
theorem s_X12_slack_k12 (l : Launch) (D : va_G) (cI cL cZ cR cG cH : ClassId) (Z : zT) (kd : Nat → Nat) (L : List Nat) (f : Nat → va_E) (hG : GI (okc cI cL cZ cR cG cH L kd) kd L f) (o0 : Nat) (mo0 : o0 ∈ L) (ko0 : kd o0 = 12) (p1 : Int32) : mPI l D cI cL cZ cR cG cH Z yX12_slack cX12_slack 2 (some .boolean) 1 22 [.ref o0, .int p1] L f (fun (r : Int32) (f9 : Nat → va_E) => GI (okc cI cL cZ cR cG cH L kd) kd L f9 ∧ (0 ≤ r.toInt ∧ r.toInt ≤ 1) ∧ ((r.toInt = 1 ∧ 0 ≤ p1.toInt ∧ p1.toInt ≤ 1) ∨ (r.toInt = 0 ∧ (p1.toInt < 0 ∨ 1 < p1.toInt))) ∧ (∀ b, kd b ≠ 575 → f9 b = f b)) := by
  obtain ⟨dC, dI⟩ := D
  refine Met.ofW (cc := cX12_slack) (maxL := 2) (ret := (some .boolean)) (by decide) rfl ?_
  intro p e s m args below meth c s₁ B hml hv
  obtain ⟨rfl, hP, hK, hD0, hN, hZ⟩ := hv
  have hx := B.exec
  have hb := B.bytes
  have hr := B.returns
  have hU : ∀ w ∈ wsU, w.before _ s = true := fun w h => atoms_spec (ws := wU yX12_slack cX12_slack 2 (some .boolean)) B.pre w (List.mem_cons_of_mem _ h)
  have hown : s.vm.findClass RX12 = some m.cls := findClass_of_methodNamed B.named
  have hlocks := B.notSynchronized
  have hD := pl_in hD0
  have hS : va_S (fun q => q ∈ L) s.heap s.heap [] := va_S.rf
  have hl := lv_entry ([.ref o0, .int p1]) (n := 2) (Nat.le_of_ble_eq_true rfl)
  rw [lg_entry_eq]
  generalize (lg_sl ([.ref o0, .int p1]) ++ List.replicate (2 - (lg_sl ([.ref o0, .int p1])).length) Slot.unset).toArray = ls at hl ⊢
  have hl : lv_has ls 2 [(0, .ref o0), (1, .int p1)] := hl
  have bp1 : ((-2147483648) ≤ p1.toInt ∧ p1.toInt ≤ 2147483647) := ⟨i32_lo _, i32_hi _⟩
  have hfr0 : ∀ b, kd b ≠ 575 → f b = f b := fun _ _ => rfl
  refine lv_iload_n hx hb dX12_slack_0 rfl (lv_at hl 1 rfl) ?_
  refine lv_iconst (v := 0) hx hb dX12_slack_1 (by decide) ?_
  refine lv_iconst (v := 1) hx hb dX12_slack_2 (by decide) ?_
  refine tk_SiP (As := [.int p1, .int 0, .int 1]) (rest := []) (n := 3) hx hb hml hown hU hN hZ (s_X12_isIn l (dC, dI) cI cL cZ cR cG cH Z kd L f hG p1 0 1) wd_227 wd_228 wd_5 wd_229 (by decide +kernel) ⟨Nat.le_of_ble_eq_true rfl, Nat.le_of_ble_eq_true rfl⟩ hK hP hD hS rfl hl.1 rfl (Nat.le_of_ble_eq_true rfl) dX12_slack_3 ⟨Nat.le_of_ble_eq_true rfl, Nat.le_of_ble_eq_true rfl⟩ (fun x_1 f_2 H locs hw hP hD hS => ?_)
  obtain ⟨rfl, bx_1, relx_1⟩ := hw
  try rw [ti_0] at relx_1
  try rw [ti_1] at relx_1
  refine lv_if_ne (tgt := 11) hx hb dX12_slack_6 (by decide) (fun c_4 => ?_) (fun c_4 => ?_)
  · skip
    rw [← Int32.toInt_inj, ti_0] at c_4
    refine lv_aload_n hx hb dX12_slack_11 rfl (lv_at hl 0 rfl) ?_
    obtain ⟨a_5, a_6, a_7, v_8, a_9, v_10, v_11, v_12, v_13, v_14, v_15, v_16, v_17, v_18, v_19, a_20, a_21, a_22, a_23, a_24, a_25, a_26, a_27, v_28, v_29, v_30, v_31, v_32, a_33, v_34, a_35, a_36, v_37, v_38, a_39, v_40, a_41, a_42, v_43, v_44, a_45, a_46, a_47, v_48, a_49, a_50, a_51, a_52, a_53, a_54, a_55, a_56, a_57, v_58, v_59, a_60, hfo_61, fa_62⟩ := un12 (hG _ mo0) ko0
    obtain ⟨ma_5, ka_5⟩ := fa12_0 fa_62
    refine tk_getP (D := (dC, dI)) (ci := 12) (v := .ref a_5) (C := RX12) (T := TX12) (N := 56) hx hb hU inlX12 hown hK hP mo0 hfo_61 rfl 0 (by decide) (hU _ wd_169) (fun _ h9 => h9) rfl dX12_slack_12 ?_
    refine lv_bipush (v := 41) hx hb dX12_slack_15 (by decide) ?_
    refine lv_iload_n hx hb dX12_slack_17 rfl (lv_at hl 1 rfl) ?_
    obtain ⟨g_64, hfo_63, hbg_64⟩ := un_575 (hG _ ma_5) ka_5
    refine tk_istP hx hb hK hP hD hS 0 ma_5 hfo_63 rfl (vp_in_nI (n := 41) (by decide) (by decide)) dX12_slack_18 (fun H locs hP hD hS => ?_)
    have hc9 : ((Int32.toNatClampNeg 41 : Nat) : Int) = 41 := by decide
    obtain ⟨f_66, ef_66⟩ : ∃ y : Nat → va_E, y = va_up f a_5 (.inl (cI, 1560, .inl (upd g_64 (Int32.toNatClampNeg 41) p1))) := ⟨_, rfl⟩
    have hP : va_P (dC, dI) vwCl (va_pl L f_66) H := by rw [ef_66]; exact hP
    have hD : va_D (fun q => q ∈ L) (va_pl L f_66) := by rw [ef_66]; exact hD
    have hG : GI (okc cI cL cZ cR cG cH L kd) kd L f_66 := by rw [ef_66]; exact hG.set a_5 (mk_575 ka_5 ⟨_, rfl, hbg_64.1.up (fun h1 h2 h3 => by exfalso; omega), hbg_64.2.1.up (fun h1 h2 h3 => by exfalso; omega), hbg_64.2.2.1.up (fun h1 h2 h3 => by exfalso; omega), hbg_64.2.2.2.1.up (fun h1 h2 h3 => by exfalso; omega), hbg_64.2.2.2.2.1.up (fun h1 h2 h3 => by exfalso; omega), hbg_64.2.2.2.2.2.1.up (fun h1 h2 h3 => by exfalso; omega), hbg_64.2.2.2.2.2.2.1.up (fun h1 h2 h3 => by exfalso; omega), hbg_64.2.2.2.2.2.2.2.1.up (fun h1 h2 h3 => by constructor <;> omega), hbg_64.2.2.2.2.2.2.2.2.1.up (fun h1 h2 h3 => by exfalso; omega), hbg_64.2.2.2.2.2.2.2.2.2.1.up (fun h1 h2 h3 => by exfalso; omega), hbg_64.2.2.2.2.2.2.2.2.2.2.1.up (fun h1 h2 h3 => by exfalso; omega), hbg_64.2.2.2.2.2.2.2.2.2.2.2.1.up (fun h1 h2 h3 => by exfalso; omega), hbg_64.2.2.2.2.2.2.2.2.2.2.2.2.1.up (fun h1 h2 h3 => by exfalso; omega), hbg_64.2.2.2.2.2.2.2.2.2.2.2.2.2.1.up (fun h1 h2 h3 => by exfalso; omega), hbg_64.2.2.2.2.2.2.2.2.2.2.2.2.2.2.1.up (fun h1 h2 h3 => by exfalso; omega), hbg_64.2.2.2.2.2.2.2.2.2.2.2.2.2.2.2.up (fun h1 h2 h3 => by exfalso; omega)⟩)
    have hfo_67 : f_66 o0 = .inr (12, [.ref a_5, .ref a_6, .ref a_7, .int v_8, .ref a_9, .int v_10, .int v_11, .int v_12, .int v_13, .int v_14, .int v_15, .int v_16, .int v_17, .int v_18, .int v_19, .ref a_20, .ref a_21, .ref a_22, .ref a_23, .ref a_24, .ref a_25, .ref a_26, .ref a_27, .int v_28, .int v_29, .int v_30, .int v_31, .int v_32, .ref a_33, .int v_34, .ref a_35, .ref a_36, .int v_37, .int v_38, .ref a_39, .int v_40, .ref a_41, .ref a_42, .int v_43, .int v_44, .ref a_45, .ref a_46, .ref a_47, .int v_48, .ref a_49, .ref a_50, .ref a_51, .ref a_52, .ref a_53, .ref a_54, .ref a_55, .ref a_56, .ref a_57, .int v_58, .int v_59, .ref a_60]) := by rw [ef_66, up_ne (kd_ne ka_5 ko0 (by decide))]; exact hfo_61
    have hfr0 : ∀ b, kd b ≠ 575 → f_66 b = f b := fun b q575 => (congrFun ef_66 b).trans ((up_ne (fun e9 => q575 (by rw [e9]; exact ka_5))).trans (hfr0 b q575))
    have hfo_68 : f_66 a_5 = .inl (cI, 1560, .inl (upd g_64 (Int32.toNatClampNeg 41) p1)) := by rw [ef_66]; exact up_self
    refine lv_iconst (v := 1) hx hb dX12_slack_19 (by decide) ?_
    exact W.zret (v := 1) (ty := .boolean) hx hb hr rfl (fun t ht hW => ⟨⟨1, f_66, rfl, ⟨hG, (by decide), (by (try rw [ti_1]) <;> omega), hfr0⟩, by rw [ht]; exact hP, va_K.moved hW.alike hK, pl_in hD⟩, hS.F ht⟩) hS.2.2 dX12_slack_20
  · skip
    rw [← Int32.toInt_inj, ti_0] at c_4
    refine lv_iconst (v := 0) hx hb dX12_slack_9 (by decide) ?_
    exact W.zret (v := 0) (ty := .boolean) hx hb hr rfl (fun t ht hW => ⟨⟨0, f, rfl, ⟨hG, (by decide), (by (try rw [ti_0]) <;> omega), hfr0⟩, by rw [ht]; exact hP, va_K.moved hW.alike hK, pl_in hD⟩, hS.F ht⟩) hS.2.2 dX12_slack_10
set_option maxHeartbeats 8000000 in
set_option maxRecDepth 100000 in
theorem s_X11_slack_k11_v (l : Launch) (D : va_G) (cI cL cZ cR cG cH : ClassId) (Z : zT) (kd : Nat → Nat) (L : List Nat) (f : Nat → va_E) (hG : GI (okc cI cL cZ cR cG cH L kd) kd L f) (o0 : Nat) (mo0 : o0 ∈ L) (ko0 : kd o0 = 11) (p1 : Int32) : mPI l D cI cL cZ cR cG cH Z yX11_slack cX11_slack 2 (some .boolean) 0 0 [.ref o0, .int p1] L f (fun (r : Int32) (f9 : Nat → va_E) => GI (okc cI cL cZ cR cG cH L kd) kd L f9 ∧ (0 ≤ r.toInt ∧ r.toInt ≤ 1) ∧ ((r.toInt = 1 ∧ 0 ≤ p1.toInt ∧ p1.toInt ≤ 1) ∨ (r.toInt = 0 ∧ (p1.toInt < 0 ∨ 1 < p1.toInt))) ∧ (∀ b, kd b ≠ 6 → kd b ≠ 11 → f9 b = f b) ∧ (∀ b, kd b = 6 → fldI (f9 b) 0 = fldI (f b) 0) ∧ (∀ b, kd b = 11 → fldI (f9 b) 1 = fldI (f b) 1) ∧ (∀ b, kd b = 11 → fldI (f9 b) 8 = fldI (f b) 8) ∧ (∀ b, kd b = 11 → fldR (f9 b) 2 = fldR (f b) 2) ∧ (∀ b, kd b = 11 → fldR (f9 b) 3 = fldR (f b) 3) ∧ (∀ b, kd b = 11 → fldR (f9 b) 5 = fldR (f b) 5) ∧ (∀ b, kd b = 11 → fldR (f9 b) 6 = fldR (f b) 6) ∧ (∀ b, kd b = 11 → fldR (f9 b) 7 = fldR (f b) 7) ∧ (∀ b, kd b = 11 → fldR (f9 b) 9 = fldR (f b) 9) ∧ (∀ b, kd b = 11 → fldR (f9 b) 10 = fldR (f b) 10) ∧ (∀ b, kd b = 11 → fldR (f9 b) 16 = fldR (f b) 16)) := by
  obtain ⟨dC, dI⟩ := D
  refine Met.ofW (cc := cX11_slack) (maxL := 2) (ret := (some .boolean)) (by decide) rfl ?_
  intro p e s m args below meth c s₁ B hml hv
  obtain ⟨rfl, hP, hK, hD0, hN, hZ⟩ := hv
  have hx := B.exec
  have hb := B.bytes
  have hr := B.returns
  have hU : ∀ w ∈ wsU, w.before _ s = true := fun w h => atoms_spec (ws := wU yX11_slack cX11_slack 2 (some .boolean)) B.pre w (List.mem_cons_of_mem _ h)
  have hown : s.vm.findClass RX11 = some m.cls := findClass_of_methodNamed B.named
  have hlocks := B.notSynchronized
  have hD := pl_in hD0
  have hS : va_S (fun q => q ∈ L) s.heap s.heap [] := va_S.rf
  have hl := lv_entry ([.ref o0, .int p1]) (n := 2) (Nat.le_of_ble_eq_true rfl)
  rw [lg_entry_eq]
  generalize (lg_sl ([.ref o0, .int p1]) ++ List.replicate (2 - (lg_sl ([.ref o0, .int p1])).length) Slot.unset).toArray = ls at hl ⊢
  have hl : lv_has ls 2 [(0, .ref o0), (1, .int p1)] := hl
  have bp1 : ((-2147483648) ≤ p1.toInt ∧ p1.toInt ≤ 2147483647) := ⟨i32_lo _, i32_hi _⟩
  have hfr0 : ∀ b, kd b ≠ 6 → kd b ≠ 11 → f b = f b := fun _ _ _ => rfl
  have hfr6_0 : ∀ b, kd b = 6 → fldI (f b) 0 = fldI (f b) 0 := fun _ _ => rfl
  have hfr11_1 : ∀ b, kd b = 11 → fldI (f b) 1 = fldI (f b) 1 := fun _ _ => rfl
  have hfr11_8 : ∀ b, kd b = 11 → fldI (f b) 8 = fldI (f b) 8 := fun _ _ => rfl
  have hrr11_2 : ∀ b, kd b = 11 → fldR (f b) 2 = fldR (f b) 2 := fun _ _ => rfl
  have hrr11_3 : ∀ b, kd b = 11 → fldR (f b) 3 = fldR (f b) 3 := fun _ _ => rfl
  have hrr11_5 : ∀ b, kd b = 11 → fldR (f b) 5 = fldR (f b) 5 := fun _ _ => rfl
  have hrr11_6 : ∀ b, kd b = 11 → fldR (f b) 6 = fldR (f b) 6 := fun _ _ => rfl
  have hrr11_7 : ∀ b, kd b = 11 → fldR (f b) 7 = fldR (f b) 7 := fun _ _ => rfl
  have hrr11_9 : ∀ b, kd b = 11 → fldR (f b) 9 = fldR (f b) 9 := fun _ _ => rfl
  have hrr11_10 : ∀ b, kd b = 11 → fldR (f b) 10 = fldR (f b) 10 := fun _ _ => rfl
  have hrr11_16 : ∀ b, kd b = 11 → fldR (f b) 16 = fldR (f b) 16 := fun _ _ => rfl
  refine lv_iload_n hx hb dX11_slack_0 rfl (lv_at hl 1 rfl) ?_
  refine lv_if_eq (tgt := 11) hx hb dX11_slack_1 (by decide) (fun c_1 => ?_) (fun c_1 => ?_)
  · skip
    rw [← Int32.toInt_inj, ti_0] at c_1
    refine lv_aload_n hx hb dX11_slack_11 rfl (lv_at hl 0 rfl) ?_
    obtain ⟨a_3, v_4, a_5, a_6, a_7, a_8, a_9, a_10, v_11, a_12, a_13, a_14, v_15, v_16, a_17, v_18, a_19, a_20, v_21, hfo_2, ⟨ma_3, ka_3⟩, bv_4, ⟨ma_5, ka_5⟩, ⟨ma_6, ka_6⟩, ⟨ma_7, ka_7⟩, ⟨ma_8, ka_8⟩, ⟨ma_9, ka_9⟩, ⟨ma_10, ka_10⟩, bv_11, ⟨ma_12, ka_12⟩, ⟨ma_13, ka_13⟩, ⟨ma_14, ka_14⟩, bv_15, ⟨ma_17, ka_17⟩, bv_18, ⟨ma_19, ka_19⟩, ⟨ma_20, ka_20⟩⟩ := un_11 (hG _ mo0) ko0
    have bv_16 : ((-2147483648) ≤ v_16.toInt ∧ v_16.toInt ≤ 2147483647) := ⟨i32_lo _, i32_hi _⟩
    have bv_21 : ((-2147483648) ≤ v_21.toInt ∧ v_21.toInt ≤ 2147483647) := ⟨i32_lo _, i32_hi _⟩
    refine tk_getP (D := (dC, dI)) (ci := 11) (v := .ref a_8) (C := RX11) (T := TX11) (N := 19) hx hb hU inlX11 hown hK hP mo0 hfo_2 rfl 5 (by decide) (hU _ wd_25) (fun _ h9 => h9) rfl dX11_slack_12 ?_
    refine lv_iload_n hx hb dX11_slack_15 rfl (lv_at hl 1 rfl) ?_
    obtain ⟨v_23, v_24, a_25, a_26, a_27, v_28, a_29, a_30, a_31, hfo_22, bv_24, ⟨ma_25, ka_25⟩, ⟨ma_26, ka_26⟩, ⟨ma_27, ka_27⟩, ⟨ma_29, ka_29⟩, ⟨ma_30, ka_30⟩, ⟨ma_31, ka_31⟩⟩ := un_6 (hG _ ma_8) ka_8
    have bv_23 : ((-2147483648) ≤ v_23.toInt ∧ v_23.toInt ≤ 2147483647) := ⟨i32_lo _, i32_hi _⟩
    have bv_28 : ((-2147483648) ≤ v_28.toInt ∧ v_28.toInt ≤ 2147483647) := ⟨i32_lo _, i32_hi _⟩
    refine tk_putP (D := (dC, dI)) (ci := 6) (v := .int p1) (ty := .int) (C := RX6) (T := TX6) (N := 9) hx hb hU inlX6 tyX6 tyX6_ok nmX6 hown hK hP hD hS ma_8 hfo_22 rfl 1 (by decide) (hU _ wd_694) (fun _ h9 => h9) rfl (by decide +kernel) rfl rfl (Nat.le_of_ble_eq_true rfl) dX11_slack_16 (fun H locs hP hD hS => ?_)
    obtain ⟨f_33, ef_33⟩ : ∃ y : Nat → va_E, y = va_up f a_8 (.inr (6, [.int v_23, .int p1, .ref a_25, .ref a_26, .ref a_27, .int v_28, .ref a_29, .ref a_30, .ref a_31])) := ⟨_, rfl⟩
    have hP : va_P (dC, dI) vwCl (va_pl L f_33) H := by rw [ef_33]; exact hP
    have hD : va_D (fun q => q ∈ L) (va_pl L f_33) := by rw [ef_33]; exact hD
    have hG : GI (okc cI cL cZ cR cG cH L kd) kd L f_33 := by rw [ef_33]; exact hG.set a_8 (mk_6 ka_8 ⟨v_23, p1, a_25, a_26, a_27, v_28, a_29, a_30, a_31, rfl, (by constructor <;> omega), ⟨ma_25, ka_25⟩, ⟨ma_26, ka_26⟩, ⟨ma_27, ka_27⟩, ⟨ma_29, ka_29⟩, ⟨ma_30, ka_30⟩, ⟨ma_31, ka_31⟩⟩)
    have hfo_34 : f_33 o0 = .inr (11, [.ref a_3, .int v_4, .ref a_5, .ref a_6, .ref a_7, .ref a_8, .ref a_9, .ref a_10, .int v_11, .ref a_12, .ref a_13, .ref a_14, .int v_15, .int v_16, .ref a_17, .int v_18, .ref a_19, .ref a_20, .int v_21]) := by rw [ef_33, up_ne (kd_ne ka_8 ko0 (by decide))]; exact hfo_2
    have hfr0 : ∀ b, kd b ≠ 6 → kd b ≠ 11 → f_33 b = f b := fun b q6 q11 => (congrFun ef_33 b).trans ((up_ne (fun e9 => q6 (by rw [e9]; exact ka_8))).trans (hfr0 b q6 q11))
    have hfr6_0 : ∀ b, kd b = 6 → fldI (f_33 b) 0 = fldI (f b) 0 := fun b kb => ((congrArg (fun x => fldI x 0) (congrFun ef_33 b)).trans (fk_up (by rw [hfo_22]; rfl) b)).trans (hfr6_0 b kb)
    have hfr11_1 : ∀ b, kd b = 11 → fldI (f_33 b) 1 = fldI (f b) 1 := fun b kb => (congrArg (fun x => fldI x 1) ((congrFun ef_33 b).trans (up_ne (kd_ne ka_8 kb (by decide))))).trans (hfr11_1 b kb)
    have hfr11_8 : ∀ b, kd b = 11 → fldI (f_33 b) 8 = fldI (f b) 8 := fun b kb => (congrArg (fun x => fldI x 8) ((congrFun ef_33 b).trans (up_ne (kd_ne ka_8 kb (by decide))))).trans (hfr11_8 b kb)
    have hrr11_2 : ∀ b, kd b = 11 → fldR (f_33 b) 2 = fldR (f b) 2 := fun b kb => (congrArg (fun x => fldR x 2) ((congrFun ef_33 b).trans (up_ne (kd_ne ka_8 kb (by decide))))).trans (hrr11_2 b kb)
    have hrr11_3 : ∀ b, kd b = 11 → fldR (f_33 b) 3 = fldR (f b) 3 := fun b kb => (congrArg (fun x => fldR x 3) ((congrFun ef_33 b).trans (up_ne (kd_ne ka_8 kb (by decide))))).trans (hrr11_3 b kb)
    have hrr11_5 : ∀ b, kd b = 11 → fldR (f_33 b) 5 = fldR (f b) 5 := fun b kb => (congrArg (fun x => fldR x 5) ((congrFun ef_33 b).trans (up_ne (kd_ne ka_8 kb (by decide))))).trans (hrr11_5 b kb)
    have hrr11_6 : ∀ b, kd b = 11 → fldR (f_33 b) 6 = fldR (f b) 6 := fun b kb => (congrArg (fun x => fldR x 6) ((congrFun ef_33 b).trans (up_ne (kd_ne ka_8 kb (by decide))))).trans (hrr11_6 b kb)
    have hrr11_7 : ∀ b, kd b = 11 → fldR (f_33 b) 7 = fldR (f b) 7 := fun b kb => (congrArg (fun x => fldR x 7) ((congrFun ef_33 b).trans (up_ne (kd_ne ka_8 kb (by decide))))).trans (hrr11_7 b kb)
    have hrr11_9 : ∀ b, kd b = 11 → fldR (f_33 b) 9 = fldR (f b) 9 := fun b kb => (congrArg (fun x => fldR x 9) ((congrFun ef_33 b).trans (up_ne (kd_ne ka_8 kb (by decide))))).trans (hrr11_9 b kb)
    have hrr11_10 : ∀ b, kd b = 11 → fldR (f_33 b) 10 = fldR (f b) 10 := fun b kb => (congrArg (fun x => fldR x 10) ((congrFun ef_33 b).trans (up_ne (kd_ne ka_8 kb (by decide))))).trans (hrr11_10 b kb)
    have hrr11_16 : ∀ b, kd b = 11 → fldR (f_33 b) 16 = fldR (f b) 16 := fun b kb => (congrArg (fun x => fldR x 16) ((congrFun ef_33 b).trans (up_ne (kd_ne ka_8 kb (by decide))))).trans (hrr11_16 b kb)
    have hfo_35 : f_33 a_8 = .inr (6, [.int v_23, .int p1, .ref a_25, .ref a_26, .ref a_27, .int v_28, .ref a_29, .ref a_30, .ref a_31]) := by rw [ef_33]; exact up_self
    refine lv_aload_n hx hb dX11_slack_19 rfl (lv_at hl 0 rfl) ?_
    refine lv_dup hx hb dX11_slack_20 rfl ?_
    refine tk_getP (D := (dC, dI)) (ci := 11) (v := .int v_21) (C := RX11) (T := TX11) (N := 19) hx hb hU inlX11 hown hK hP mo0 hfo_34 rfl 18 (by decide) (hU _ wd_236) (fun _ h9 => h9) rfl dX11_slack_21 ?_
    refine lv_iconst (v := 1) hx hb dX11_slack_24 (by decide) ?_
    refine lv_iadd hx hb dX11_slack_25 ?_
    refine lv_topi (fun x_36 ex_36 => ?_)
    have bx_36 : ((-2147483648) ≤ x_36.toInt ∧ x_36.toInt ≤ 2147483647) := ⟨i32_lo _, i32_hi _⟩
    refine tk_putP (D := (dC, dI)) (ci := 11) (v := .int x_36) (ty := .int) (C := RX11) (T := TX11) (N := 19) hx hb hU inlX11 tyX11 tyX11_ok nmX11 hown hK hP hD hS mo0 hfo_34 rfl 18 (by decide) (hU _ wd_236) (fun _ h9 => h9) rfl (by decide +kernel) rfl rfl (Nat.le_of_ble_eq_true rfl) dX11_slack_26 (fun H locs hP hD hS => ?_)
    obtain ⟨f_38, ef_38⟩ : ∃ y : Nat → va_E, y = va_up f_33 o0 (.inr (11, [.ref a_3, .int v_4, .ref a_5, .ref a_6, .ref a_7, .ref a_8, .ref a_9, .ref a_10, .int v_11, .ref a_12, .ref a_13, .ref a_14, .int v_15, .int v_16, .ref a_17, .int v_18, .ref a_19, .ref a_20, .int x_36])) := ⟨_, rfl⟩
    have hP : va_P (dC, dI) vwCl (va_pl L f_38) H := by rw [ef_38]; exact hP
    have hD : va_D (fun q => q ∈ L) (va_pl L f_38) := by rw [ef_38]; exact hD
    have hG : GI (okc cI cL cZ cR cG cH L kd) kd L f_38 := by rw [ef_38]; exact hG.set o0 (mk_11 ko0 ⟨a_3, v_4, a_5, a_6, a_7, a_8, a_9, a_10, v_11, a_12, a_13, a_14, v_15, v_16, a_17, v_18, a_19, a_20, x_36, rfl, ⟨ma_3, ka_3⟩, (by constructor <;> omega), ⟨ma_5, ka_5⟩, ⟨ma_6, ka_6⟩, ⟨ma_7, ka_7⟩, ⟨ma_8, ka_8⟩, ⟨ma_9, ka_9⟩, ⟨ma_10, ka_10⟩, (by constructor <;> omega), ⟨ma_12, ka_12⟩, ⟨ma_13, ka_13⟩, ⟨ma_14, ka_14⟩, (by constructor <;> omega), ⟨ma_17, ka_17⟩, (by constructor <;> omega), ⟨ma_19, ka_19⟩, ⟨ma_20, ka_20⟩⟩)
    have hfo_39 : f_38 a_8 = .inr (6, [.int v_23, .int p1, .ref a_25, .ref a_26, .ref a_27, .int v_28, .ref a_29, .ref a_30, .ref a_31]) := by rw [ef_38, up_ne (kd_ne ko0 ka_8 (by decide))]; exact hfo_35
    have hfr0 : ∀ b, kd b ≠ 6 → kd b ≠ 11 → f_38 b = f b := fun b q6 q11 => (congrFun ef_38 b).trans ((up_ne (fun e9 => q11 (by rw [e9]; exact ko0))).trans (hfr0 b q6 q11))
    have hfr6_0 : ∀ b, kd b = 6 → fldI (f_38 b) 0 = fldI (f b) 0 := fun b kb => (congrArg (fun x => fldI x 0) ((congrFun ef_38 b).trans (up_ne (kd_ne ko0 kb (by decide))))).trans (hfr6_0 b kb)
    have hfr11_1 : ∀ b, kd b = 11 → fldI (f_38 b) 1 = fldI (f b) 1 := fun b kb => ((congrArg (fun x => fldI x 1) (congrFun ef_38 b)).trans (fk_up (by rw [hfo_34]; rfl) b)).trans (hfr11_1 b kb)
    have hfr11_8 : ∀ b, kd b = 11 → fldI (f_38 b) 8 = fldI (f b) 8 := fun b kb => ((congrArg (fun x => fldI x 8) (congrFun ef_38 b)).trans (fk_up (by rw [hfo_34]; rfl) b)).trans (hfr11_8 b kb)
    have hrr11_2 : ∀ b, kd b = 11 → fldR (f_38 b) 2 = fldR (f b) 2 := fun b kb => ((congrArg (fun x => fldR x 2) (congrFun ef_38 b)).trans (fr_up (by rw [hfo_34]; rfl) b)).trans (hrr11_2 b kb)
    have hrr11_3 : ∀ b, kd b = 11 → fldR (f_38 b) 3 = fldR (f b) 3 := fun b kb => ((congrArg (fun x => fldR x 3) (congrFun ef_38 b)).trans (fr_up (by rw [hfo_34]; rfl) b)).trans (hrr11_3 b kb)
    have hrr11_5 : ∀ b, kd b = 11 → fldR (f_38 b) 5 = fldR (f b) 5 := fun b kb => ((congrArg (fun x => fldR x 5) (congrFun ef_38 b)).trans (fr_up (by rw [hfo_34]; rfl) b)).trans (hrr11_5 b kb)
    have hrr11_6 : ∀ b, kd b = 11 → fldR (f_38 b) 6 = fldR (f b) 6 := fun b kb => ((congrArg (fun x => fldR x 6) (congrFun ef_38 b)).trans (fr_up (by rw [hfo_34]; rfl) b)).trans (hrr11_6 b kb)
    have hrr11_7 : ∀ b, kd b = 11 → fldR (f_38 b) 7 = fldR (f b) 7 := fun b kb => ((congrArg (fun x => fldR x 7) (congrFun ef_38 b)).trans (fr_up (by rw [hfo_34]; rfl) b)).trans (hrr11_7 b kb)
    have hrr11_9 : ∀ b, kd b = 11 → fldR (f_38 b) 9 = fldR (f b) 9 := fun b kb => ((congrArg (fun x => fldR x 9) (congrFun ef_38 b)).trans (fr_up (by rw [hfo_34]; rfl) b)).trans (hrr11_9 b kb)
    have hrr11_10 : ∀ b, kd b = 11 → fldR (f_38 b) 10 = fldR (f b) 10 := fun b kb => ((congrArg (fun x => fldR x 10) (congrFun ef_38 b)).trans (fr_up (by rw [hfo_34]; rfl) b)).trans (hrr11_10 b kb)
    have hrr11_16 : ∀ b, kd b = 11 → fldR (f_38 b) 16 = fldR (f b) 16 := fun b kb => ((congrArg (fun x => fldR x 16) (congrFun ef_38 b)).trans (fr_up (by rw [hfo_34]; rfl) b)).trans (hrr11_16 b kb)
    have hfo_40 : f_38 o0 = .inr (11, [.ref a_3, .int v_4, .ref a_5, .ref a_6, .ref a_7, .ref a_8, .ref a_9, .ref a_10, .int v_11, .ref a_12, .ref a_13, .ref a_14, .int v_15, .int v_16, .ref a_17, .int v_18, .ref a_19, .ref a_20, .int x_36]) := by rw [ef_38]; exact up_self
    refine lv_iconst (v := 1) hx hb dX11_slack_29 (by decide) ?_
    exact W.zret (v := 1) (ty := .boolean) hx hb hr rfl (fun t ht hW => ⟨⟨1, f_38, rfl, ⟨hG, (by decide), (by (try rw [ti_1]) <;> omega), hfr0, hfr6_0, hfr11_1, hfr11_8, hrr11_2, hrr11_3, hrr11_5, hrr11_6, hrr11_7, hrr11_9, hrr11_10, hrr11_16⟩, by rw [ht]; exact hP, va_K.moved hW.alike hK, pl_in hD⟩, hS.F ht⟩) hS.2.2 dX11_slack_30
  · skip
    rw [← Int32.toInt_inj, ti_0] at c_1
    refine lv_iload_n hx hb dX11_slack_4 rfl (lv_at hl 1 rfl) ?_
    refine lv_iconst (v := 1) hx hb dX11_slack_5 (by decide) ?_
    refine lv_icmp_eq (tgt := 11) hx hb dX11_slack_6 (by decide) (fun c_41 => ?_) (fun c_41 => ?_)
    · skip
      rw [← Int32.toInt_inj, ti_1] at c_41
      refine lv_aload_n hx hb dX11_slack_11 rfl (lv_at hl 0 rfl) ?_
      obtain ⟨a_43, v_44, a_45, a_46, a_47, a_48, a_49, a_50, v_51, a_52, a_53, a_54, v_55, v_56, a_57, v_58, a_59, a_60, v_61, hfo_42, ⟨ma_43, ka_43⟩, bv_44, ⟨ma_45, ka_45⟩, ⟨ma_46, ka_46⟩, ⟨ma_47, ka_47⟩, ⟨ma_48, ka_48⟩, ⟨ma_49, ka_49⟩, ⟨ma_50, ka_50⟩, bv_51, ⟨ma_52, ka_52⟩, ⟨ma_53, ka_53⟩, ⟨ma_54, ka_54⟩, bv_55, ⟨ma_57, ka_57⟩, bv_58, ⟨ma_59, ka_59⟩, ⟨ma_60, ka_60⟩⟩ := un_11 (hG _ mo0) ko0
      have bv_56 : ((-2147483648) ≤ v_56.toInt ∧ v_56.toInt ≤ 2147483647) := ⟨i32_lo _, i32_hi _⟩
      have bv_61 : ((-2147483648) ≤ v_61.toInt ∧ v_61.toInt ≤ 2147483647) := ⟨i32_lo _, i32_hi _⟩
      refine tk_getP (D := (dC, dI)) (ci := 11) (v := .ref a_48) (C := RX11) (T := TX11) (N := 19) hx hb hU inlX11 hown hK hP mo0 hfo_42 rfl 5 (by decide) (hU _ wd_25) (fun _ h9 => h9) rfl dX11_slack_12 ?_
      refine lv_iload_n hx hb dX11_slack_15 rfl (lv_at hl 1 rfl) ?_
      obtain ⟨v_63, v_64, a_65, a_66, a_67, v_68, a_69, a_70, a_71, hfo_62, bv_64, ⟨ma_65, ka_65⟩, ⟨ma_66, ka_66⟩, ⟨ma_67, ka_67⟩, ⟨ma_69, ka_69⟩, ⟨ma_70, ka_70⟩, ⟨ma_71, ka_71⟩⟩ := un_6 (hG _ ma_48) ka_48
      have bv_63 : ((-2147483648) ≤ v_63.toInt ∧ v_63.toInt ≤ 2147483647) := ⟨i32_lo _, i32_hi _⟩
      have bv_68 : ((-2147483648) ≤ v_68.toInt ∧ v_68.toInt ≤ 2147483647) := ⟨i32_lo _, i32_hi _⟩
      refine tk_putP (D := (dC, dI)) (ci := 6) (v := .int p1) (ty := .int) (C := RX6) (T := TX6) (N := 9) hx hb hU inlX6 tyX6 tyX6_ok nmX6 hown hK hP hD hS ma_48 hfo_62 rfl 1 (by decide) (hU _ wd_694) (fun _ h9 => h9) rfl (by decide +kernel) rfl rfl (Nat.le_of_ble_eq_true rfl) dX11_slack_16 (fun H locs hP hD hS => ?_)
      obtain ⟨f_73, ef_73⟩ : ∃ y : Nat → va_E, y = va_up f a_48 (.inr (6, [.int v_63, .int p1, .ref a_65, .ref a_66, .ref a_67, .int v_68, .ref a_69, .ref a_70, .ref a_71])) := ⟨_, rfl⟩
      have hP : va_P (dC, dI) vwCl (va_pl L f_73) H := by rw [ef_73]; exact hP
      have hD : va_D (fun q => q ∈ L) (va_pl L f_73) := by rw [ef_73]; exact hD
      have hG : GI (okc cI cL cZ cR cG cH L kd) kd L f_73 := by rw [ef_73]; exact hG.set a_48 (mk_6 ka_48 ⟨v_63, p1, a_65, a_66, a_67, v_68, a_69, a_70, a_71, rfl, (by constructor <;> omega), ⟨ma_65, ka_65⟩, ⟨ma_66, ka_66⟩, ⟨ma_67, ka_67⟩, ⟨ma_69, ka_69⟩, ⟨ma_70, ka_70⟩, ⟨ma_71, ka_71⟩⟩)
      have hfo_74 : f_73 o0 = .inr (11, [.ref a_43, .int v_44, .ref a_45, .ref a_46, .ref a_47, .ref a_48, .ref a_49, .ref a_50, .int v_51, .ref a_52, .ref a_53, .ref a_54, .int v_55, .int v_56, .ref a_57, .int v_58, .ref a_59, .ref a_60, .int v_61]) := by rw [ef_73, up_ne (kd_ne ka_48 ko0 (by decide))]; exact hfo_42
      have hfr0 : ∀ b, kd b ≠ 6 → kd b ≠ 11 → f_73 b = f b := fun b q6 q11 => (congrFun ef_73 b).trans ((up_ne (fun e9 => q6 (by rw [e9]; exact ka_48))).trans (hfr0 b q6 q11))
      have hfr6_0 : ∀ b, kd b = 6 → fldI (f_73 b) 0 = fldI (f b) 0 := fun b kb => ((congrArg (fun x => fldI x 0) (congrFun ef_73 b)).trans (fk_up (by rw [hfo_62]; rfl) b)).trans (hfr6_0 b kb)
      have hfr11_1 : ∀ b, kd b = 11 → fldI (f_73 b) 1 = fldI (f b) 1 := fun b kb => (congrArg (fun x => fldI x 1) ((congrFun ef_73 b).trans (up_ne (kd_ne ka_48 kb (by decide))))).trans (hfr11_1 b kb)
      have hfr11_8 : ∀ b, kd b = 11 → fldI (f_73 b) 8 = fldI (f b) 8 := fun b kb => (congrArg (fun x => fldI x 8) ((congrFun ef_73 b).trans (up_ne (kd_ne ka_48 kb (by decide))))).trans (hfr11_8 b kb)
      have hrr11_2 : ∀ b, kd b = 11 → fldR (f_73 b) 2 = fldR (f b) 2 := fun b kb => (congrArg (fun x => fldR x 2) ((congrFun ef_73 b).trans (up_ne (kd_ne ka_48 kb (by decide))))).trans (hrr11_2 b kb)
      have hrr11_3 : ∀ b, kd b = 11 → fldR (f_73 b) 3 = fldR (f b) 3 := fun b kb => (congrArg (fun x => fldR x 3) ((congrFun ef_73 b).trans (up_ne (kd_ne ka_48 kb (by decide))))).trans (hrr11_3 b kb)
      have hrr11_5 : ∀ b, kd b = 11 → fldR (f_73 b) 5 = fldR (f b) 5 := fun b kb => (congrArg (fun x => fldR x 5) ((congrFun ef_73 b).trans (up_ne (kd_ne ka_48 kb (by decide))))).trans (hrr11_5 b kb)
      have hrr11_6 : ∀ b, kd b = 11 → fldR (f_73 b) 6 = fldR (f b) 6 := fun b kb => (congrArg (fun x => fldR x 6) ((congrFun ef_73 b).trans (up_ne (kd_ne ka_48 kb (by decide))))).trans (hrr11_6 b kb)
      have hrr11_7 : ∀ b, kd b = 11 → fldR (f_73 b) 7 = fldR (f b) 7 := fun b kb => (congrArg (fun x => fldR x 7) ((congrFun ef_73 b).trans (up_ne (kd_ne ka_48 kb (by decide))))).trans (hrr11_7 b kb)
      have hrr11_9 : ∀ b, kd b = 11 → fldR (f_73 b) 9 = fldR (f b) 9 := fun b kb => (congrArg (fun x => fldR x 9) ((congrFun ef_73 b).trans (up_ne (kd_ne ka_48 kb (by decide))))).trans (hrr11_9 b kb)
      have hrr11_10 : ∀ b, kd b = 11 → fldR (f_73 b) 10 = fldR (f b) 10 := fun b kb => (congrArg (fun x => fldR x 10) ((congrFun ef_73 b).trans (up_ne (kd_ne ka_48 kb (by decide))))).trans (hrr11_10 b kb)
      have hrr11_16 : ∀ b, kd b = 11 → fldR (f_73 b) 16 = fldR (f b) 16 := fun b kb => (congrArg (fun x => fldR x 16) ((congrFun ef_73 b).trans (up_ne (kd_ne ka_48 kb (by decide))))).trans (hrr11_16 b kb)
      have hfo_75 : f_73 a_48 = .inr (6, [.int v_63, .int p1, .ref a_65, .ref a_66, .ref a_67, .int v_68, .ref a_69, .ref a_70, .ref a_71]) := by rw [ef_73]; exact up_self
      refine lv_aload_n hx hb dX11_slack_19 rfl (lv_at hl 0 rfl) ?_
      refine lv_dup hx hb dX11_slack_20 rfl ?_
      refine tk_getP (D := (dC, dI)) (ci := 11) (v := .int v_61) (C := RX11) (T := TX11) (N := 19) hx hb hU inlX11 hown hK hP mo0 hfo_74 rfl 18 (by decide) (hU _ wd_236) (fun _ h9 => h9) rfl dX11_slack_21 ?_
      refine lv_iconst (v := 1) hx hb dX11_slack_24 (by decide) ?_
      refine lv_iadd hx hb dX11_slack_25 ?_
      refine lv_topi (fun x_76 ex_76 => ?_)
      have bx_76 : ((-2147483648) ≤ x_76.toInt ∧ x_76.toInt ≤ 2147483647) := ⟨i32_lo _, i32_hi _⟩
      refine tk_putP (D := (dC, dI)) (ci := 11) (v := .int x_76) (ty := .int) (C := RX11) (T := TX11) (N := 19) hx hb hU inlX11 tyX11 tyX11_ok nmX11 hown hK hP hD hS mo0 hfo_74 rfl 18 (by decide) (hU _ wd_236) (fun _ h9 => h9) rfl (by decide +kernel) rfl rfl (Nat.le_of_ble_eq_true rfl) dX11_slack_26 (fun H locs hP hD hS => ?_)
      obtain ⟨f_78, ef_78⟩ : ∃ y : Nat → va_E, y = va_up f_73 o0 (.inr (11, [.ref a_43, .int v_44, .ref a_45, .ref a_46, .ref a_47, .ref a_48, .ref a_49, .ref a_50, .int v_51, .ref a_52, .ref a_53, .ref a_54, .int v_55, .int v_56, .ref a_57, .int v_58, .ref a_59, .ref a_60, .int x_76])) := ⟨_, rfl⟩
      have hP : va_P (dC, dI) vwCl (va_pl L f_78) H := by rw [ef_78]; exact hP
      have hD : va_D (fun q => q ∈ L) (va_pl L f_78) := by rw [ef_78]; exact hD
      have hG : GI (okc cI cL cZ cR cG cH L kd) kd L f_78 := by rw [ef_78]; exact hG.set o0 (mk_11 ko0 ⟨a_43, v_44, a_45, a_46, a_47, a_48, a_49, a_50, v_51, a_52, a_53, a_54, v_55, v_56, a_57, v_58, a_59, a_60, x_76, rfl, ⟨ma_43, ka_43⟩, (by constructor <;> omega), ⟨ma_45, ka_45⟩, ⟨ma_46, ka_46⟩, ⟨ma_47, ka_47⟩, ⟨ma_48, ka_48⟩, ⟨ma_49, ka_49⟩, ⟨ma_50, ka_50⟩, (by constructor <;> omega), ⟨ma_52, ka_52⟩, ⟨ma_53, ka_53⟩, ⟨ma_54, ka_54⟩, (by constructor <;> omega), ⟨ma_57, ka_57⟩, (by constructor <;> omega), ⟨ma_59, ka_59⟩, ⟨ma_60, ka_60⟩⟩)
      have hfo_79 : f_78 a_48 = .inr (6, [.int v_63, .int p1, .ref a_65, .ref a_66, .ref a_67, .int v_68, .ref a_69, .ref a_70, .ref a_71]) := by rw [ef_78, up_ne (kd_ne ko0 ka_48 (by decide))]; exact hfo_75
      have hfr0 : ∀ b, kd b ≠ 6 → kd b ≠ 11 → f_78 b = f b := fun b q6 q11 => (congrFun ef_78 b).trans ((up_ne (fun e9 => q11 (by rw [e9]; exact ko0))).trans (hfr0 b q6 q11))
      have hfr6_0 : ∀ b, kd b = 6 → fldI (f_78 b) 0 = fldI (f b) 0 := fun b kb => (congrArg (fun x => fldI x 0) ((congrFun ef_78 b).trans (up_ne (kd_ne ko0 kb (by decide))))).trans (hfr6_0 b kb)
      have hfr11_1 : ∀ b, kd b = 11 → fldI (f_78 b) 1 = fldI (f b) 1 := fun b kb => ((congrArg (fun x => fldI x 1) (congrFun ef_78 b)).trans (fk_up (by rw [hfo_74]; rfl) b)).trans (hfr11_1 b kb)
      have hfr11_8 : ∀ b, kd b = 11 → fldI (f_78 b) 8 = fldI (f b) 8 := fun b kb => ((congrArg (fun x => fldI x 8) (congrFun ef_78 b)).trans (fk_up (by rw [hfo_74]; rfl) b)).trans (hfr11_8 b kb)
      have hrr11_2 : ∀ b, kd b = 11 → fldR (f_78 b) 2 = fldR (f b) 2 := fun b kb => ((congrArg (fun x => fldR x 2) (congrFun ef_78 b)).trans (fr_up (by rw [hfo_74]; rfl) b)).trans (hrr11_2 b kb)
      have hrr11_3 : ∀ b, kd b = 11 → fldR (f_78 b) 3 = fldR (f b) 3 := fun b kb => ((congrArg (fun x => fldR x 3) (congrFun ef_78 b)).trans (fr_up (by rw [hfo_74]; rfl) b)).trans (hrr11_3 b kb)
      have hrr11_5 : ∀ b, kd b = 11 → fldR (f_78 b) 5 = fldR (f b) 5 := fun b kb => ((congrArg (fun x => fldR x 5) (congrFun ef_78 b)).trans (fr_up (by rw [hfo_74]; rfl) b)).trans (hrr11_5 b kb)
      have hrr11_6 : ∀ b, kd b = 11 → fldR (f_78 b) 6 = fldR (f b) 6 := fun b kb => ((congrArg (fun x => fldR x 6) (congrFun ef_78 b)).trans (fr_up (by rw [hfo_74]; rfl) b)).trans (hrr11_6 b kb)
      have hrr11_7 : ∀ b, kd b = 11 → fldR (f_78 b) 7 = fldR (f b) 7 := fun b kb => ((congrArg (fun x => fldR x 7) (congrFun ef_78 b)).trans (fr_up (by rw [hfo_74]; rfl) b)).trans (hrr11_7 b kb)
      have hrr11_9 : ∀ b, kd b = 11 → fldR (f_78 b) 9 = fldR (f b) 9 := fun b kb => ((congrArg (fun x => fldR x 9) (congrFun ef_78 b)).trans (fr_up (by rw [hfo_74]; rfl) b)).trans (hrr11_9 b kb)
      have hrr11_10 : ∀ b, kd b = 11 → fldR (f_78 b) 10 = fldR (f b) 10 := fun b kb => ((congrArg (fun x => fldR x 10) (congrFun ef_78 b)).trans (fr_up (by rw [hfo_74]; rfl) b)).trans (hrr11_10 b kb)
      have hrr11_16 : ∀ b, kd b = 11 → fldR (f_78 b) 16 = fldR (f b) 16 := fun b kb => ((congrArg (fun x => fldR x 16) (congrFun ef_78 b)).trans (fr_up (by rw [hfo_74]; rfl) b)).trans (hrr11_16 b kb)
      have hfo_80 : f_78 o0 = .inr (11, [.ref a_43, .int v_44, .ref a_45, .ref a_46, .ref a_47, .ref a_48, .ref a_49, .ref a_50, .int v_51, .ref a_52, .ref a_53, .ref a_54, .int v_55, .int v_56, .ref a_57, .int v_58, .ref a_59, .ref a_60, .int x_76]) := by rw [ef_78]; exact up_self
      refine lv_iconst (v := 1) hx hb dX11_slack_29 (by decide) ?_
      exact W.zret (v := 1) (ty := .boolean) hx hb hr rfl (fun t ht hW => ⟨⟨1, f_78, rfl, ⟨hG, (by decide), (by (try rw [ti_1]) <;> omega), hfr0, hfr6_0, hfr11_1, hfr11_8, hrr11_2, hrr11_3, hrr11_5, hrr11_6, hrr11_7, hrr11_9, hrr11_10, hrr11_16⟩, by rw [ht]; exact hP, va_K.moved hW.alike hK, pl_in hD⟩, hS.F ht⟩) hS.2.2 dX11_slack_30
    · skip
      rw [← Int32.toInt_inj, ti_1] at c_41
      refine lv_iconst (v := 0) hx hb dX11_slack_9 (by decide) ?_
      exact W.zret (v := 0) (ty := .boolean) hx hb hr rfl (fun t ht hW => ⟨⟨0, f, rfl, ⟨hG, (by decide), (by (try rw [ti_0]) <;> omega), hfr0, hfr6_0, hfr11_1, hfr11_8, hrr11_2, hrr11_3, hrr11_5, hrr11_6, hrr11_7, hrr11_9, hrr11_10, hrr11_16⟩, by rw [ht]; exact hP, va_K.moved hW.alike hK, pl_in hD⟩, hS.F ht⟩) hS.2.2 dX11_slack_10
set_option maxHeartbeats 8000000 in
set_option maxRecDepth 100000 in
theorem s_X12_order_k12 (l : Launch) (D : va_G) (cI cL cZ cR cG cH : ClassId) (Z : zT) (kd : Nat → Nat) (L : List Nat) (f : Nat → va_E) (hG : GI (okc cI cL cZ cR cG cH L kd) kd L f) (o0 : Nat) (mo0 : o0 ∈ L) (ko0 : kd o0 = 12) (p1 : Int32) (p2 : Int32) : mPI l D cI cL cZ cR cG cH Z yX12_order cX12_order 4 (some .boolean) 1 22 [.ref o0, .int p1, .int p2] L f (fun (r : Int32) (f9 : Nat → va_E) => GI (okc cI cL cZ cR cG cH L kd) kd L f9 ∧ (0 ≤ r.toInt ∧ r.toInt ≤ 1) ∧ (∀ b, kd b ≠ 575 → f9 b = f b)) := by
  obtain ⟨dC, dI⟩ := D
  refine Met.ofW (cc := cX12_order) (maxL := 4) (ret := (some .boolean)) (by decide) rfl ?_
  intro p e s m args below meth c s₁ B hml hv
  obtain ⟨rfl, hP, hK, hD0, hN, hZ⟩ := hv
  have hx := B.exec
  have hb := B.bytes
  have hr := B.returns
  have hU : ∀ w ∈ wsU, w.before _ s = true := fun w h => atoms_spec (ws := wU yX12_order cX12_order 4 (some .boolean)) B.pre w (List.mem_cons_of_mem _ h)
  have hown : s.vm.findClass RX12 = some m.cls := findClass_of_methodNamed B.named
  have hlocks := B.notSynchronized
  have hD := pl_in hD0
  have hS : va_S (fun q => q ∈ L) s.heap s.heap [] := va_S.rf
  have hl := lv_entry ([.ref o0, .int p1, .int p2]) (n := 4) (Nat.le_of_ble_eq_true rfl)
  rw [lg_entry_eq]
  generalize (lg_sl ([.ref o0, .int p1, .int p2]) ++ List.replicate (4 - (lg_sl ([.ref o0, .int p1, .int p2])).length) Slot.unset).toArray = ls at hl ⊢
  have hl : lv_has ls 4 [(0, .ref o0), (1, .int p1), (2, .int p2)] := hl
  have bp1 : ((-2147483648) ≤ p1.toInt ∧ p1.toInt ≤ 2147483647) := ⟨i32_lo _, i32_hi _⟩
  have bp2 : ((-2147483648) ≤ p2.toInt ∧ p2.toInt ≤ 2147483647) := ⟨i32_lo _, i32_hi _⟩
  have hfr0 : ∀ b, kd b ≠ 575 → f b = f b := fun _ _ => rfl
  refine lv_iload_n hx hb dX12_order_0 rfl (lv_at hl 1 rfl) ?_
  refine lv_iconst (v := 0) hx hb dX12_order_1 (by decide) ?_
  refine lv_aload_n hx hb dX12_order_2 rfl (lv_at hl 0 rfl) ?_
  obtain ⟨a_1, a_2, a_3, v_4, a_5, v_6, v_7, v_8, v_9, v_10, v_11, v_12, v_13, v_14, v_15, a_16, a_17, a_18, a_19, a_20, a_21, a_22, a_23, v_24, v_25, v_26, v_27, v_28, a_29, v_30, a_31, a_32, v_33, v_34, a_35, v_36, a_37, a_38, v_39, v_40, a_41, a_42, a_43, v_44, a_45, a_46, a_47, a_48, a_49, a_50, a_51, a_52, a_53, v_54, v_55, a_56, hfo_57, fa_58⟩ := un12 (hG _ mo0) ko0
  obtain ⟨ma_1, ka_1⟩ := fa12_0 fa_58
  refine tk_getP (D := (dC, dI)) (ci := 12) (v := .ref a_1) (C := RX12) (T := TX12) (N := 56) hx hb hU inlX12 hown hK hP mo0 hfo_57 rfl 0 (by decide) (hU _ wd_169) (fun _ h9 => h9) rfl dX12_order_3 ?_
  refine lv_bipush (v := 17) hx hb dX12_order_6 (by decide) ?_
  obtain ⟨g_60, hfo_59, hbg_60⟩ := un_575 (hG _ ma_1) ka_1
  refine tk_ildP hx hb hK hP 0 ma_1 hfo_59 rfl (vp_in_nI (n := 17) (by decide) (by decide)) dX12_order_8 ?_
  refine lv_topi (fun x_61 ex_61 => ?_)
  have bx_61 : (0 ≤ x_61.toInt ∧ x_61.toInt ≤ 8) := by rw [ex_61]; exact hbg_60.2.2.1 _ (by decide) (by decide) (by decide)
  refine lv_iconst (v := 1) hx hb dX12_order_9 (by decide) ?_
  refine lv_isub hx hb dX12_order_10 ?_
  refine lv_topi (fun x_62 ex_62 => ?_)
  have hx_62 : x_62.toInt = x_61.toInt - 1 := by rw [ex_62, sb_I (by rw [ti_1]; omega) (by rw [ti_1]; omega), ti_1]
  have bx_62 : ((-1) ≤ x_62.toInt ∧ x_62.toInt ≤ 7) := by constructor <;> omega
  refine tk_SiP (As := [.int p1, .int 0, .int x_62]) (rest := []) (n := 3) hx hb hml hown hU hN hZ (s_X12_isIn l (dC, dI) cI cL cZ cR cG cH Z kd L f hG p1 0 x_62) wd_227 wd_228 wd_5 wd_229 (by decide +kernel) ⟨Nat.le_of_ble_eq_true rfl, Nat.le_of_ble_eq_true rfl⟩ hK hP hD hS rfl hl.1 rfl (Nat.le_of_ble_eq_true rfl) dX12_order_11 ⟨Nat.le_of_ble_eq_true rfl, Nat.le_of_ble_eq_true rfl⟩ (fun x_63 f_64 H locs hw hP hD hS => ?_)
  obtain ⟨rfl, bx_63, relx_63⟩ := hw
  try rw [ti_0] at relx_63
  refine lv_if_eq (tgt := 34) hx hb dX12_order_14 (by decide) (fun c_66 => ?_) (fun c_66 => ?_)
  · skip
    rw [← Int32.toInt_inj, ti_0] at c_66
    refine lv_iconst (v := 0) hx hb dX12_order_34 (by decide) ?_
    exact W.zret (v := 0) (ty := .boolean) hx hb hr rfl (fun t ht hW => ⟨⟨0, f, rfl, ⟨hG, (by decide), hfr0⟩, by rw [ht]; exact hP, va_K.moved hW.alike hK, pl_in hD⟩, hS.F ht⟩) hS.2.2 dX12_order_35
  · skip
    rw [← Int32.toInt_inj, ti_0] at c_66
    refine lv_iload_n hx hb dX12_order_17 rfl (lv_at hl 2 rfl) ?_
    refine lv_iconst (v := 0) hx hb dX12_order_18 (by decide) ?_
    refine lv_aload_n hx hb dX12_order_19 rfl (lv_at hl 0 rfl) ?_
    refine tk_getP (D := (dC, dI)) (ci := 12) (v := .ref a_1) (C := RX12) (T := TX12) (N := 56) hx hb hU inlX12 hown hK hP mo0 hfo_57 rfl 0 (by decide) (hU _ wd_169) (fun _ h9 => h9) rfl dX12_order_20 ?_
    refine lv_bipush (v := 17) hx hb dX12_order_23 (by decide) ?_
    refine tk_ildP hx hb hK hP 0 ma_1 hfo_59 rfl (vp_in_nI (n := 17) (by decide) (by decide)) dX12_order_25 ?_
    refine tk_topi (y := x_61) ex_61.symm ?_
    refine lv_iconst (v := 1) hx hb dX12_order_26 (by decide) ?_
    refine lv_isub hx hb dX12_order_27 ?_
    refine lv_topi (fun x_67 ex_67 => ?_)
    have hx_67 : x_67.toInt = x_61.toInt - 1 := by rw [ex_67, sb_I (by rw [ti_1]; omega) (by rw [ti_1]; omega), ti_1]
    have bx_67 : ((-1) ≤ x_67.toInt ∧ x_67.toInt ≤ 7) := by constructor <;> omega
    refine tk_SiP (As := [.int p2, .int 0, .int x_67]) (rest := []) (n := 3) hx hb hml hown hU hN hZ (s_X12_isIn l (dC, dI) cI cL cZ cR cG cH Z kd L f hG p2 0 x_67) wd_227 wd_228 wd_5 wd_229 (by decide +kernel) ⟨Nat.le_of_ble_eq_true rfl, Nat.le_of_ble_eq_true rfl⟩ hK hP hD hS rfl hl.1 rfl (Nat.le_of_ble_eq_true rfl) dX12_order_28 ⟨Nat.le_of_ble_eq_true rfl, Nat.le_of_ble_eq_true rfl⟩ (fun x_68 f_69 H locs hw hP hD hS => ?_)
    obtain ⟨rfl, bx_68, relx_68⟩ := hw
    try rw [ti_0] at relx_68
    refine lv_if_ne (tgt := 36) hx hb dX12_order_31 (by decide) (fun c_71 => ?_) (fun c_71 => ?_)
    · skip
      rw [← Int32.toInt_inj, ti_0] at c_71
      refine lv_iconst (v := 0) hx hb dX12_order_36 (by decide) ?_
      refine lv_istore_n (lv' := [(3, .int 0), (0, .ref o0), (1, .int p1), (2, .int p2)]) hx hb dX12_order_37 rfl hl (by decide) rfl (fun ls hl => ?_)
      have hloop_88 : ∀ (n : Nat), ∀ (y_89 : Int32), (0 ≤ y_89.toInt ∧ y_89.toInt ≤ 8) → ∀ (f_91 : Nat → va_E), GI (okc cI cL cZ cR cG cH L kd) kd L f_91 → ∀ (H : Heap) (locs : List Loc), va_P (dC, dI) vwCl (va_pl L f_91) H → va_S (fun q => q ∈ L) s.heap H locs → va_D (fun q => q ∈ L) (va_pl L f_91) → (∀ b, kd b ≠ 575 → f_91 b = f b) → (f_91 o0 = .inr (12, [.ref a_1, .ref a_2, .ref a_3, .int v_4, .ref a_5, .int v_6, .int v_7, .int v_8, .int v_9, .int v_10, .int v_11, .int v_12, .int v_13, .int v_14, .int v_15, .ref a_16, .ref a_17, .ref a_18, .ref a_19, .ref a_20, .ref a_21, .ref a_22, .ref a_23, .int v_24, .int v_25, .int v_26, .int v_27, .int v_28, .ref a_29, .int v_30, .ref a_31, .ref a_32, .int v_33, .int v_34, .ref a_35, .int v_36, .ref a_37, .ref a_38, .int v_39, .int v_40, .ref a_41, .ref a_42, .ref a_43, .int v_44, .ref a_45, .ref a_46, .ref a_47, .ref a_48, .ref a_49, .ref a_50, .ref a_51, .ref a_52, .ref a_53, .int v_54, .int v_55, .ref a_56])) → 8 - y_89.toInt < (n : Int) → ∀ (ls : Array Slot), lv_has ls 4 [(3, .int y_89), (0, .ref o0), (1, .int p1), (2, .int p2)] → W p l e (headSpec (wU yX12_order cX12_order 4 (some .boolean)) { frames := 1, cells := 0, slots := 0, locals := 22 }).room s m [.ref o0, .int p1, .int p2].toArray below meth c H locs 0 0 (MQ below (va_Qi (fun (r : Int32) (f9 : Nat → va_E) => GI (okc cI cL cZ cR cG cH L kd) kd L f9 ∧ (0 ≤ r.toInt ∧ r.toInt ≤ 1) ∧ (∀ b, kd b ≠ 575 → f9 b = f b)) (qP (dC, dI) cI cL cZ cR cG cH L) (fun q => q ∈ L)) [.ref o0, .int p1, .int p2].toArray s 0 0 (fun q => q ∈ L)) (F0 m 38 ls []) := by
        intro n
        induction n with
        | zero => intro y_89 by_89 f_91 hG H locs hP hS hD hfr0 hfo_92 hmuhloop_88 ls hl; exfalso; omega
        | succ n ih_hloop_88 =>
          intro y_89 by_89 f_91 hG H locs hP hS hD hfr0 hfo_92 hmuhloop_88 ls hl
          refine lv_iload_n hx hb dX12_order_38 rfl (lv_at hl 0 rfl) ?_
          refine lv_aload_n hx hb dX12_order_39 rfl (lv_at hl 1 rfl) ?_
          refine tk_getP (D := (dC, dI)) (ci := 12) (v := .ref a_1) (C := RX12) (T := TX12) (N := 56) hx hb hU inlX12 hown hK hP mo0 hfo_92 rfl 0 (by decide) (hU _ wd_169) (fun _ h9 => h9) rfl dX12_order_40 ?_
          refine lv_bipush (v := 17) hx hb dX12_order_43 (by decide) ?_
          obtain ⟨g_94, hfo_93, hbg_94⟩ := un_575 (hG _ ma_1) ka_1
          refine tk_ildP hx hb hK hP 0 ma_1 hfo_93 rfl (vp_in_nI (n := 17) (by decide) (by decide)) dX12_order_45 ?_
          refine lv_topi (fun x_95 ex_95 => ?_)
          have bx_95 : (0 ≤ x_95.toInt ∧ x_95.toInt ≤ 8) := by rw [ex_95]; exact hbg_94.2.2.1 _ (by decide) (by decide) (by decide)
          refine lv_icmp_ge (tgt := 86) hx hb dX12_order_46 (by decide) (fun c_96 => ?_) (fun c_96 => ?_)
          · skip
            rw [Int32.le_iff_toInt_le] at c_96
            refine lv_aload_n hx hb dX12_order_86 rfl (lv_at hl 1 rfl) ?_
            refine tk_getP (D := (dC, dI)) (ci := 12) (v := .ref a_1) (C := RX12) (T := TX12) (N := 56) hx hb hU inlX12 hown hK hP mo0 hfo_92 rfl 0 (by decide) (hU _ wd_169) (fun _ h9 => h9) rfl dX12_order_87 ?_
            refine lv_bipush (v := 43) hx hb dX12_order_90 (by decide) ?_
            refine lv_iload_n hx hb dX12_order_92 rfl (lv_at hl 2 rfl) ?_
            refine lv_iadd hx hb dX12_order_93 ?_
            refine lv_topi (fun x_97 ex_97 => ?_)
            have hx_97 : x_97.toInt = 43 + p1.toInt := by rw [ex_97, ad_I (by rw [ti_43]; omega) (by rw [ti_43]; omega), ti_43]
            have bx_97 : (43 ≤ x_97.toInt ∧ x_97.toInt ≤ 50) := by constructor <;> omega
            refine lv_iload_n hx hb dX12_order_94 rfl (lv_at hl 3 rfl) ?_
            refine tk_istP hx hb hK hP hD hS 0 ma_1 hfo_93 rfl (vp_in_iff.mpr (by constructor <;> omega)) dX12_order_95 (fun H locs hP hD hS => ?_)
            have hc9 := cl_I (i := x_97) (by omega)
            obtain ⟨f_99, ef_99⟩ : ∃ y : Nat → va_E, y = va_up f_91 a_1 (.inl (cI, 1560, .inl (upd g_94 (Int32.toNatClampNeg x_97) p2))) := ⟨_, rfl⟩
            have hP : va_P (dC, dI) vwCl (va_pl L f_99) H := by rw [ef_99]; exact hP
            have hD : va_D (fun q => q ∈ L) (va_pl L f_99) := by rw [ef_99]; exact hD
            have hG : GI (okc cI cL cZ cR cG cH L kd) kd L f_99 := by rw [ef_99]; exact hG.set a_1 (mk_575 ka_1 ⟨_, rfl, hbg_94.1.up (fun h1 h2 h3 => by exfalso; omega), hbg_94.2.1.up (fun h1 h2 h3 => by exfalso; omega), hbg_94.2.2.1.up (fun h1 h2 h3 => by exfalso; omega), hbg_94.2.2.2.1.up (fun h1 h2 h3 => by exfalso; omega), hbg_94.2.2.2.2.1.up (fun h1 h2 h3 => by exfalso; omega), hbg_94.2.2.2.2.2.1.up (fun h1 h2 h3 => by exfalso; omega), hbg_94.2.2.2.2.2.2.1.up (fun h1 h2 h3 => by exfalso; omega), hbg_94.2.2.2.2.2.2.2.1.up (fun h1 h2 h3 => by exfalso; omega), hbg_94.2.2.2.2.2.2.2.2.1.up (fun h1 h2 h3 => by exfalso; omega), hbg_94.2.2.2.2.2.2.2.2.2.1.up (fun h1 h2 h3 => by constructor <;> omega), hbg_94.2.2.2.2.2.2.2.2.2.2.1.up (fun h1 h2 h3 => by exfalso; omega), hbg_94.2.2.2.2.2.2.2.2.2.2.2.1.up (fun h1 h2 h3 => by exfalso; omega), hbg_94.2.2.2.2.2.2.2.2.2.2.2.2.1.up (fun h1 h2 h3 => by exfalso; omega), hbg_94.2.2.2.2.2.2.2.2.2.2.2.2.2.1.up (fun h1 h2 h3 => by exfalso; omega), hbg_94.2.2.2.2.2.2.2.2.2.2.2.2.2.2.1.up (fun h1 h2 h3 => by exfalso; omega), hbg_94.2.2.2.2.2.2.2.2.2.2.2.2.2.2.2.up (fun h1 h2 h3 => by exfalso; omega)⟩)
            have hfo_100 : f_99 o0 = .inr (12, [.ref a_1, .ref a_2, .ref a_3, .int v_4, .ref a_5, .int v_6, .int v_7, .int v_8, .int v_9, .int v_10, .int v_11, .int v_12, .int v_13, .int v_14, .int v_15, .ref a_16, .ref a_17, .ref a_18, .ref a_19, .ref a_20, .ref a_21, .ref a_22, .ref a_23, .int v_24, .int v_25, .int v_26, .int v_27, .int v_28, .ref a_29, .int v_30, .ref a_31, .ref a_32, .int v_33, .int v_34, .ref a_35, .int v_36, .ref a_37, .ref a_38, .int v_39, .int v_40, .ref a_41, .ref a_42, .ref a_43, .int v_44, .ref a_45, .ref a_46, .ref a_47, .ref a_48, .ref a_49, .ref a_50, .ref a_51, .ref a_52, .ref a_53, .int v_54, .int v_55, .ref a_56]) := by rw [ef_99, up_ne (kd_ne ka_1 ko0 (by decide))]; exact hfo_92
            have hfr0 : ∀ b, kd b ≠ 575 → f_99 b = f b := fun b q575 => (congrFun ef_99 b).trans ((up_ne (fun e9 => q575 (by rw [e9]; exact ka_1))).trans (hfr0 b q575))
            have hfo_101 : f_99 a_1 = .inl (cI, 1560, .inl (upd g_94 (Int32.toNatClampNeg x_97) p2)) := by rw [ef_99]; exact up_self
            refine lv_iconst (v := 1) hx hb dX12_order_96 (by decide) ?_
            exact W.zret (v := 1) (ty := .boolean) hx hb hr rfl (fun t ht hW => ⟨⟨1, f_99, rfl, ⟨hG, (by decide), hfr0⟩, by rw [ht]; exact hP, va_K.moved hW.alike hK, pl_in hD⟩, hS.F ht⟩) hS.2.2 dX12_order_97
          · skip
            rw [Int32.le_iff_toInt_le] at c_96
            refine lv_aload_n hx hb dX12_order_49 rfl (lv_at hl 1 rfl) ?_
            refine tk_getP (D := (dC, dI)) (ci := 12) (v := .ref a_1) (C := RX12) (T := TX12) (N := 56) hx hb hU inlX12 hown hK hP mo0 hfo_92 rfl 0 (by decide) (hU _ wd_169) (fun _ h9 => h9) rfl dX12_order_50 ?_
            refine lv_bipush (v := 43) hx hb dX12_order_53 (by decide) ?_
            refine lv_iload_n hx hb dX12_order_55 rfl (lv_at hl 0 rfl) ?_
            refine lv_iadd hx hb dX12_order_56 ?_
            refine lv_topi (fun x_102 ex_102 => ?_)
            have hx_102 : x_102.toInt = 43 + y_89.toInt := by rw [ex_102, ad_I (by rw [ti_43]; omega) (by rw [ti_43]; omega), ti_43]
            have bx_102 : (43 ≤ x_102.toInt ∧ x_102.toInt ≤ 50) := by constructor <;> omega
            refine tk_ildP hx hb hK hP 0 ma_1 hfo_93 rfl (vp_in_iff.mpr (by constructor <;> omega)) dX12_order_57 ?_
            refine lv_topi (fun x_103 ex_103 => ?_)
            have bx_103 : (0 ≤ x_103.toInt ∧ x_103.toInt ≤ 7) := by have hc9 := cl_I (i := x_102) (by omega); rw [ex_103]; exact hbg_94.2.2.2.2.2.2.2.2.2.1 _ (by omega) (by omega) (by omega)
            refine lv_iload_n hx hb dX12_order_58 rfl (lv_at hl 3 rfl) ?_
            have hcut_107 : ∀ (f_105 : Nat → va_E), GI (okc cI cL cZ cR cG cH L kd) kd L f_105 → ∀ (H : Heap) (locs : List Loc), va_P (dC, dI) vwCl (va_pl L f_105) H → va_S (fun q => q ∈ L) s.heap H locs → va_D (fun q => q ∈ L) (va_pl L f_105) → (∀ b, kd b ≠ 575 → f_105 b = f b) → (f_105 o0 = .inr (12, [.ref a_1, .ref a_2, .ref a_3, .int v_4, .ref a_5, .int v_6, .int v_7, .int v_8, .int v_9, .int v_10, .int v_11, .int v_12, .int v_13, .int v_14, .int v_15, .ref a_16, .ref a_17, .ref a_18, .ref a_19, .ref a_20, .ref a_21, .ref a_22, .ref a_23, .int v_24, .int v_25, .int v_26, .int v_27, .int v_28, .ref a_29, .int v_30, .ref a_31, .ref a_32, .int v_33, .int v_34, .ref a_35, .int v_36, .ref a_37, .ref a_38, .int v_39, .int v_40, .ref a_41, .ref a_42, .ref a_43, .int v_44, .ref a_45, .ref a_46, .ref a_47, .ref a_48, .ref a_49, .ref a_50, .ref a_51, .ref a_52, .ref a_53, .int v_54, .int v_55, .ref a_56])) → ∀ (ls : Array Slot), lv_has ls 4 [(3, .int y_89), (0, .ref o0), (1, .int p1), (2, .int p2)] → W p l e (headSpec (wU yX12_order cX12_order 4 (some .boolean)) { frames := 1, cells := 0, slots := 0, locals := 22 }).room s m [.ref o0, .int p1, .int p2].toArray below meth c H locs 0 0 (MQ below (va_Qi (fun (r : Int32) (f9 : Nat → va_E) => GI (okc cI cL cZ cR cG cH L kd) kd L f9 ∧ (0 ≤ r.toInt ∧ r.toInt ≤ 1) ∧ (∀ b, kd b ≠ 575 → f9 b = f b)) (qP (dC, dI) cI cL cZ cR cG cH L) (fun q => q ∈ L)) [.ref o0, .int p1, .int p2].toArray s 0 0 (fun q => q ∈ L)) (F0 m 80 ls []) := by
              intro f_105 hG H locs hP hS hD hfr0 hfo_106 ls hl
              obtain ⟨x_108, ex_108⟩ : ∃ y : Int32, y_89 + 1 = y := ⟨_, rfl⟩
              have hx_108 : x_108.toInt = y_89.toInt + 1 := by rw [← ex_108, ad_I (by rw [ti_1]; omega) (by rw [ti_1]; omega), ti_1]
              have bx_108 : (1 ≤ x_108.toInt ∧ x_108.toInt ≤ 8) := by constructor <;> omega
              refine lv_iinc (v := x_108) (lv' := [(3, .int x_108), (0, .ref o0), (1, .int p1), (2, .int p2)]) hx hb dX12_order_80 hl (k := 0) rfl ex_108 (by decide) rfl (fun ls hl => ?_)
              refine lv_goto (tgt := 38) hx hb dX12_order_83 (by decide) ?_
              exact ih_hloop_88 x_108 (by constructor <;> omega) f_105 hG _ _ hP hS hD hfr0 hfo_106 (by omega) ls (lv_sub hl [0, 1, 2, 3] rfl)
            refine lv_icmp_ne (tgt := 80) hx hb dX12_order_59 (by decide) (fun c_109 => ?_) (fun c_109 => ?_)
            · skip
              rw [← Int32.toInt_inj] at c_109
              exact hcut_107 f_91 hG _ _ hP hS hD hfr0 hfo_92 ls (lv_sub hl [0, 1, 2, 3] rfl)
            · skip
              rw [← Int32.toInt_inj] at c_109
              refine lv_aload_n hx hb dX12_order_62 rfl (lv_at hl 1 rfl) ?_
              refine tk_getP (D := (dC, dI)) (ci := 12) (v := .ref a_1) (C := RX12) (T := TX12) (N := 56) hx hb hU inlX12 hown hK hP mo0 hfo_92 rfl 0 (by decide) (hU _ wd_169) (fun _ h9 => h9) rfl dX12_order_63 ?_
              refine lv_bipush (v := 43) hx hb dX12_order_66 (by decide) ?_
              refine lv_iload_n hx hb dX12_order_68 rfl (lv_at hl 0 rfl) ?_
              refine lv_iadd hx hb dX12_order_69 ?_
              refine lv_topi (fun x_110 ex_110 => ?_)
              have hx_110 : x_110.toInt = 43 + y_89.toInt := by rw [ex_110, ad_I (by rw [ti_43]; omega) (by rw [ti_43]; omega), ti_43]
              have bx_110 : (43 ≤ x_110.toInt ∧ x_110.toInt ≤ 50) := by constructor <;> omega
              refine lv_aload_n hx hb dX12_order_70 rfl (lv_at hl 1 rfl) ?_
              refine tk_getP (D := (dC, dI)) (ci := 12) (v := .ref a_1) (C := RX12) (T := TX12) (N := 56) hx hb hU inlX12 hown hK hP mo0 hfo_92 rfl 0 (by decide) (hU _ wd_169) (fun _ h9 => h9) rfl dX12_order_71 ?_
              refine lv_bipush (v := 43) hx hb dX12_order_74 (by decide) ?_
              refine lv_iload_n hx hb dX12_order_76 rfl (lv_at hl 2 rfl) ?_
              refine lv_iadd hx hb dX12_order_77 ?_
              refine lv_topi (fun x_111 ex_111 => ?_)
              have hx_111 : x_111.toInt = 43 + p1.toInt := by rw [ex_111, ad_I (by rw [ti_43]; omega) (by rw [ti_43]; omega), ti_43]
              have bx_111 : (43 ≤ x_111.toInt ∧ x_111.toInt ≤ 50) := by constructor <;> omega
              refine tk_ildP hx hb hK hP 0 ma_1 hfo_93 rfl (vp_in_iff.mpr (by constructor <;> omega)) dX12_order_78 ?_
              refine lv_topi (fun x_112 ex_112 => ?_)
              have bx_112 : (0 ≤ x_112.toInt ∧ x_112.toInt ≤ 7) := by have hc9 := cl_I (i := x_111) (by omega); rw [ex_112]; exact hbg_94.2.2.2.2.2.2.2.2.2.1 _ (by omega) (by omega) (by omega)
              refine tk_istP hx hb hK hP hD hS 0 ma_1 hfo_93 rfl (vp_in_iff.mpr (by constructor <;> omega)) dX12_order_79 (fun H locs hP hD hS => ?_)
              have hc9 := cl_I (i := x_110) (by omega)
              obtain ⟨f_114, ef_114⟩ : ∃ y : Nat → va_E, y = va_up f_91 a_1 (.inl (cI, 1560, .inl (upd g_94 (Int32.toNatClampNeg x_110) x_112))) := ⟨_, rfl⟩
              have hP : va_P (dC, dI) vwCl (va_pl L f_114) H := by rw [ef_114]; exact hP
              have hD : va_D (fun q => q ∈ L) (va_pl L f_114) := by rw [ef_114]; exact hD
              have hG : GI (okc cI cL cZ cR cG cH L kd) kd L f_114 := by rw [ef_114]; exact hG.set a_1 (mk_575 ka_1 ⟨_, rfl, hbg_94.1.up (fun h1 h2 h3 => by exfalso; omega), hbg_94.2.1.up (fun h1 h2 h3 => by exfalso; omega), hbg_94.2.2.1.up (fun h1 h2 h3 => by exfalso; omega), hbg_94.2.2.2.1.up (fun h1 h2 h3 => by exfalso; omega), hbg_94.2.2.2.2.1.up (fun h1 h2 h3 => by exfalso; omega), hbg_94.2.2.2.2.2.1.up (fun h1 h2 h3 => by exfalso; omega), hbg_94.2.2.2.2.2.2.1.up (fun h1 h2 h3 => by exfalso; omega), hbg_94.2.2.2.2.2.2.2.1.up (fun h1 h2 h3 => by exfalso; omega), hbg_94.2.2.2.2.2.2.2.2.1.up (fun h1 h2 h3 => by exfalso; omega), hbg_94.2.2.2.2.2.2.2.2.2.1.up (fun h1 h2 h3 => by constructor <;> omega), hbg_94.2.2.2.2.2.2.2.2.2.2.1.up (fun h1 h2 h3 => by exfalso; omega), hbg_94.2.2.2.2.2.2.2.2.2.2.2.1.up (fun h1 h2 h3 => by exfalso; omega), hbg_94.2.2.2.2.2.2.2.2.2.2.2.2.1.up (fun h1 h2 h3 => by exfalso; omega), hbg_94.2.2.2.2.2.2.2.2.2.2.2.2.2.1.up (fun h1 h2 h3 => by exfalso; omega), hbg_94.2.2.2.2.2.2.2.2.2.2.2.2.2.2.1.up (fun h1 h2 h3 => by exfalso; omega), hbg_94.2.2.2.2.2.2.2.2.2.2.2.2.2.2.2.up (fun h1 h2 h3 => by exfalso; omega)⟩)
              have hfo_115 : f_114 o0 = .inr (12, [.ref a_1, .ref a_2, .ref a_3, .int v_4, .ref a_5, .int v_6, .int v_7, .int v_8, .int v_9, .int v_10, .int v_11, .int v_12, .int v_13, .int v_14, .int v_15, .ref a_16, .ref a_17, .ref a_18, .ref a_19, .ref a_20, .ref a_21, .ref a_22, .ref a_23, .int v_24, .int v_25, .int v_26, .int v_27, .int v_28, .ref a_29, .int v_30, .ref a_31, .ref a_32, .int v_33, .int v_34, .ref a_35, .int v_36, .ref a_37, .ref a_38, .int v_39, .int v_40, .ref a_41, .ref a_42, .ref a_43, .int v_44, .ref a_45, .ref a_46, .ref a_47, .ref a_48, .ref a_49, .ref a_50, .ref a_51, .ref a_52, .ref a_53, .int v_54, .int v_55, .ref a_56]) := by rw [ef_114, up_ne (kd_ne ka_1 ko0 (by decide))]; exact hfo_92
              have hfr0 : ∀ b, kd b ≠ 575 → f_114 b = f b := fun b q575 => (congrFun ef_114 b).trans ((up_ne (fun e9 => q575 (by rw [e9]; exact ka_1))).trans (hfr0 b q575))
              have hfo_116 : f_114 a_1 = .inl (cI, 1560, .inl (upd g_94 (Int32.toNatClampNeg x_110) x_112)) := by rw [ef_114]; exact up_self
              exact hcut_107 f_114 hG _ _ hP hS hD hfr0 hfo_115 ls (lv_sub hl [0, 1, 2, 3] rfl)
      exact hloop_88 9 0 (by decide) f hG _ _ hP hS hD hfr0 hfo_57 (by (try rw [ti_0]) <;> omega) ls hl
    · skip
      rw [← Int32.toInt_inj, ti_0] at c_71
      refine lv_iconst (v := 0) hx hb dX12_order_34 (by decide) ?_
      exact W.zret (v := 0) (ty := .boolean) hx hb hr rfl (fun t ht hW => ⟨⟨0, f, rfl, ⟨hG, (by decide), hfr0⟩, by rw [ht]; exact hP, va_K.moved hW.alike hK, pl_in hD⟩, hS.F ht⟩) hS.2.2 dX12_order_35
