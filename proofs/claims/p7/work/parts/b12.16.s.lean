set_option maxHeartbeats 8000000 in
set_option maxRecDepth 100000 in
theorem s_X12_isRule_k12 (l : Launch) (D : va_G) (cI cL cZ cR cG cH : ClassId) (Z : zT) (kd : Nat → Nat) (L : List Nat) (f : Nat → va_E) (hG : GI (okc cI cL cZ cR cG cH L kd) kd L f) (o0 : Nat) (mo0 : o0 ∈ L) (ko0 : kd o0 = 12) (p1 : Int32) : mPI l D cI cL cZ cR cG cH Z yX12_isRule cX12_isRule 2 (some .boolean) 1 22 [.ref o0, .int p1] L f (fun (r : Int32) (f9 : Nat → va_E) => f = f9 ∧ (0 ≤ r.toInt ∧ r.toInt ≤ 1) ∧ (r.toInt = 0 ∨ (0 ≤ p1.toInt ∧ p1.toInt ≤ 7))) := by
  obtain ⟨dC, dI⟩ := D
  refine Met.ofW (cc := cX12_isRule) (maxL := 2) (ret := (some .boolean)) (by decide) rfl ?_
  intro p e s m args below meth c s₁ B hml hv
  obtain ⟨rfl, hP, hK, hD0, hN, hZ⟩ := hv
  have hx := B.exec
  have hb := B.bytes
  have hr := B.returns
  have hU : ∀ w ∈ wsU, w.before _ s = true := fun w h => atoms_spec (ws := wU yX12_isRule cX12_isRule 2 (some .boolean)) B.pre w (List.mem_cons_of_mem _ h)
  have hown : s.vm.findClass RX12 = some m.cls := findClass_of_methodNamed B.named
  have hlocks := B.notSynchronized
  have hD := pl_in hD0
  have hS : va_S (fun q => q ∈ L) s.heap s.heap [] := va_S.rf
  have hl := lv_entry ([.ref o0, .int p1]) (n := 2) (Nat.le_of_ble_eq_true rfl)
  rw [lg_entry_eq]
  generalize (lg_sl ([.ref o0, .int p1]) ++ List.replicate (2 - (lg_sl ([.ref o0, .int p1])).length) Slot.unset).toArray = ls at hl ⊢
  have hl : lv_has ls 2 [(0, .ref o0), (1, .int p1)] := hl
  have bp1 : ((-2147483648) ≤ p1.toInt ∧ p1.toInt ≤ 2147483647) := ⟨i32_lo _, i32_hi _⟩
  refine lv_iload_n hx hb dX12_isRule_0 rfl (lv_at hl 1 rfl) ?_
  refine lv_iconst (v := 0) hx hb dX12_isRule_1 (by decide) ?_
  refine lv_aload_n hx hb dX12_isRule_2 rfl (lv_at hl 0 rfl) ?_
  obtain ⟨a_2, a_3, a_4, v_5, a_6, v_7, v_8, v_9, v_10, v_11, v_12, v_13, v_14, v_15, v_16, a_17, a_18, a_19, a_20, a_21, a_22, a_23, a_24, v_25, v_26, v_27, v_28, v_29, a_30, v_31, a_32, a_33, v_34, v_35, a_36, v_37, a_38, a_39, v_40, v_41, a_42, a_43, a_44, v_45, a_46, a_47, a_48, a_49, a_50, a_51, a_52, a_53, a_54, v_55, v_56, a_57, hfo_1, ⟨ma_2, ka_2⟩, ⟨ma_3, ka_3⟩, ⟨ma_4, ka_4⟩, bv_5, ⟨ma_6, ka_6⟩, bv_7, bv_8, bv_13, bv_14, bv_15, ⟨ma_17, ka_17⟩, ⟨ma_18, ka_18⟩, ⟨ma_19, ka_19⟩, ⟨ma_20, ka_20⟩, ⟨ma_21, ka_21⟩, ⟨ma_22, ka_22⟩, ⟨ma_23, ka_23⟩, ⟨ma_24, ka_24⟩, bv_25, bv_27, bv_29, ⟨ma_30, ka_30⟩, bv_31, ⟨ma_32, ka_32⟩, ⟨ma_33, ka_33⟩, bv_34, ⟨ma_36, ka_36⟩, bv_37, ⟨ma_38, ka_38⟩, ⟨ma_39, ka_39⟩, bv_40, ⟨ma_42, ka_42⟩, ⟨ma_43, ka_43⟩, ⟨ma_44, ka_44⟩, bv_45, ⟨ma_46, ka_46⟩, ⟨ma_47, ka_47⟩, ⟨ma_48, ka_48⟩, ⟨ma_49, ka_49⟩, ⟨ma_50, ka_50⟩, ⟨ma_51, ka_51⟩, ⟨ma_52, ka_52⟩, ⟨ma_53, ka_53⟩, ⟨ma_54, ka_54⟩, bv_55, ⟨ma_57, ka_57⟩⟩ := un_12 (hG _ mo0) ko0
  have bv_9 : ((-2147483648) ≤ v_9.toInt ∧ v_9.toInt ≤ 2147483647) := ⟨i32_lo _, i32_hi _⟩
  have bv_10 : ((-2147483648) ≤ v_10.toInt ∧ v_10.toInt ≤ 2147483647) := ⟨i32_lo _, i32_hi _⟩
  have bv_11 : ((-2147483648) ≤ v_11.toInt ∧ v_11.toInt ≤ 2147483647) := ⟨i32_lo _, i32_hi _⟩
  have bv_12 : ((-2147483648) ≤ v_12.toInt ∧ v_12.toInt ≤ 2147483647) := ⟨i32_lo _, i32_hi _⟩
  have bv_16 : ((-2147483648) ≤ v_16.toInt ∧ v_16.toInt ≤ 2147483647) := ⟨i32_lo _, i32_hi _⟩
  have bv_26 : ((-2147483648) ≤ v_26.toInt ∧ v_26.toInt ≤ 2147483647) := ⟨i32_lo _, i32_hi _⟩
  have bv_28 : ((-2147483648) ≤ v_28.toInt ∧ v_28.toInt ≤ 2147483647) := ⟨i32_lo _, i32_hi _⟩
  have bv_35 : ((-2147483648) ≤ v_35.toInt ∧ v_35.toInt ≤ 2147483647) := ⟨i32_lo _, i32_hi _⟩
  have bv_41 : ((-2147483648) ≤ v_41.toInt ∧ v_41.toInt ≤ 2147483647) := ⟨i32_lo _, i32_hi _⟩
  have bv_56 : ((-2147483648) ≤ v_56.toInt ∧ v_56.toInt ≤ 2147483647) := ⟨i32_lo _, i32_hi _⟩
  refine tk_getP (D := (dC, dI)) (ci := 12) (v := .ref a_2) (C := RX12) (T := TX12) (N := 56) hx hb hU inlX12 hown hK hP mo0 hfo_1 rfl 0 (by decide) (hU _ wd_169) (fun _ h9 => h9) rfl dX12_isRule_3 ?_
  refine lv_bipush (v := 17) hx hb dX12_isRule_6 (by decide) ?_
  obtain ⟨g_59, hfo_58, hbg_59⟩ := un_575 (hG _ ma_2) ka_2
  refine tk_ildP hx hb hK hP 0 ma_2 hfo_58 rfl (vp_in_nI (n := 17) (by decide) (by decide)) dX12_isRule_8 ?_
  refine lv_topi (fun x_60 ex_60 => ?_)
  have bx_60 : (0 ≤ x_60.toInt ∧ x_60.toInt ≤ 8) := by rw [ex_60]; exact hbg_59.2.2.1 _ (by decide) (by decide) (by decide)
  refine lv_iconst (v := 1) hx hb dX12_isRule_9 (by decide) ?_
  refine lv_isub hx hb dX12_isRule_10 ?_
  refine lv_topi (fun x_61 ex_61 => ?_)
  have hx_61 : x_61.toInt = x_60.toInt - 1 := by rw [ex_61, sb_I (by rw [ti_1]; omega) (by rw [ti_1]; omega), ti_1]
  have bx_61 : ((-1) ≤ x_61.toInt ∧ x_61.toInt ≤ 7) := by constructor <;> omega
  refine tk_SiP (As := [.int p1, .int 0, .int x_61]) (rest := []) (n := 3) hx hb hml hown hU hN hZ (s_X12_isIn l (dC, dI) cI cL cZ cR cG cH Z kd L f hG p1 0 x_61) wd_227 wd_228 wd_5 wd_229 (by decide +kernel) ⟨Nat.le_of_ble_eq_true rfl, Nat.le_of_ble_eq_true rfl⟩ hK hP hD hS rfl hl.1 rfl (Nat.le_of_ble_eq_true rfl) dX12_isRule_11 ⟨Nat.le_of_ble_eq_true rfl, Nat.le_of_ble_eq_true rfl⟩ (fun x_62 f_63 H locs hw hP hD hS => ?_)
  obtain ⟨rfl, bx_62, relx_62⟩ := hw
  try rw [ti_0] at relx_62
  exact W.zret (v := x_62) (ty := .boolean) hx hb hr (zb_n (by constructor <;> omega)) (fun t ht hW => ⟨⟨x_62, f, rfl, ⟨rfl, (by constructor <;> omega), (by omega)⟩, by rw [ht]; exact hP, va_K.moved hW.alike hK, pl_in hD⟩, hS.F ht⟩) hS.2.2 dX12_isRule_14
set_option maxHeartbeats 8000000 in
set_option maxRecDepth 100000 in
theorem s_X12_never_k12 (l : Launch) (D : va_G) (cI cL cZ cR cG cH : ClassId) (Z : zT) (kd : Nat → Nat) (L : List Nat) (f : Nat → va_E) (hG : GI (okc cI cL cZ cR cG cH L kd) kd L f) (o0 : Nat) (mo0 : o0 ∈ L) (ko0 : kd o0 = 12) (p1 : Int32) (bp1 : (0 ≤ p1.toInt ∧ p1.toInt ≤ 7)) : mPI l D cI cL cZ cR cG cH Z yX12_never cX12_never 2 (some .boolean) 1 22 [.ref o0, .int p1] L f (fun (r : Int32) (f9 : Nat → va_E) => f = f9 ∧ (0 ≤ r.toInt ∧ r.toInt ≤ 1)) := by
  obtain ⟨dC, dI⟩ := D
  refine Met.ofW (cc := cX12_never) (maxL := 2) (ret := (some .boolean)) (by decide) rfl ?_
  intro p e s m args below meth c s₁ B hml hv
  obtain ⟨rfl, hP, hK, hD0, hN, hZ⟩ := hv
  have hx := B.exec
  have hb := B.bytes
  have hr := B.returns
  have hU : ∀ w ∈ wsU, w.before _ s = true := fun w h => atoms_spec (ws := wU yX12_never cX12_never 2 (some .boolean)) B.pre w (List.mem_cons_of_mem _ h)
  have hown : s.vm.findClass RX12 = some m.cls := findClass_of_methodNamed B.named
  have hlocks := B.notSynchronized
  have hD := pl_in hD0
  have hS : va_S (fun q => q ∈ L) s.heap s.heap [] := va_S.rf
  have hl := lv_entry ([.ref o0, .int p1]) (n := 2) (Nat.le_of_ble_eq_true rfl)
  rw [lg_entry_eq]
  generalize (lg_sl ([.ref o0, .int p1]) ++ List.replicate (2 - (lg_sl ([.ref o0, .int p1])).length) Slot.unset).toArray = ls at hl ⊢
  have hl : lv_has ls 2 [(0, .ref o0), (1, .int p1)] := hl
  refine lv_aload_n hx hb dX12_never_0 rfl (lv_at hl 0 rfl) ?_
  refine lv_iload_n hx hb dX12_never_1 rfl (lv_at hl 1 rfl) ?_
  refine lv_iconst (v := 2) hx hb dX12_never_2 (by decide) ?_
  obtain ⟨a_2, a_3, a_4, v_5, a_6, v_7, v_8, v_9, v_10, v_11, v_12, v_13, v_14, v_15, v_16, a_17, a_18, a_19, a_20, a_21, a_22, a_23, a_24, v_25, v_26, v_27, v_28, v_29, a_30, v_31, a_32, a_33, v_34, v_35, a_36, v_37, a_38, a_39, v_40, v_41, a_42, a_43, a_44, v_45, a_46, a_47, a_48, a_49, a_50, a_51, a_52, a_53, a_54, v_55, v_56, a_57, hfo_1, ⟨ma_2, ka_2⟩, ⟨ma_3, ka_3⟩, ⟨ma_4, ka_4⟩, bv_5, ⟨ma_6, ka_6⟩, bv_7, bv_8, bv_13, bv_14, bv_15, ⟨ma_17, ka_17⟩, ⟨ma_18, ka_18⟩, ⟨ma_19, ka_19⟩, ⟨ma_20, ka_20⟩, ⟨ma_21, ka_21⟩, ⟨ma_22, ka_22⟩, ⟨ma_23, ka_23⟩, ⟨ma_24, ka_24⟩, bv_25, bv_27, bv_29, ⟨ma_30, ka_30⟩, bv_31, ⟨ma_32, ka_32⟩, ⟨ma_33, ka_33⟩, bv_34, ⟨ma_36, ka_36⟩, bv_37, ⟨ma_38, ka_38⟩, ⟨ma_39, ka_39⟩, bv_40, ⟨ma_42, ka_42⟩, ⟨ma_43, ka_43⟩, ⟨ma_44, ka_44⟩, bv_45, ⟨ma_46, ka_46⟩, ⟨ma_47, ka_47⟩, ⟨ma_48, ka_48⟩, ⟨ma_49, ka_49⟩, ⟨ma_50, ka_50⟩, ⟨ma_51, ka_51⟩, ⟨ma_52, ka_52⟩, ⟨ma_53, ka_53⟩, ⟨ma_54, ka_54⟩, bv_55, ⟨ma_57, ka_57⟩⟩ := un_12 (hG _ mo0) ko0
  have bv_9 : ((-2147483648) ≤ v_9.toInt ∧ v_9.toInt ≤ 2147483647) := ⟨i32_lo _, i32_hi _⟩
  have bv_10 : ((-2147483648) ≤ v_10.toInt ∧ v_10.toInt ≤ 2147483647) := ⟨i32_lo _, i32_hi _⟩
  have bv_11 : ((-2147483648) ≤ v_11.toInt ∧ v_11.toInt ≤ 2147483647) := ⟨i32_lo _, i32_hi _⟩
  have bv_12 : ((-2147483648) ≤ v_12.toInt ∧ v_12.toInt ≤ 2147483647) := ⟨i32_lo _, i32_hi _⟩
  have bv_16 : ((-2147483648) ≤ v_16.toInt ∧ v_16.toInt ≤ 2147483647) := ⟨i32_lo _, i32_hi _⟩
  have bv_26 : ((-2147483648) ≤ v_26.toInt ∧ v_26.toInt ≤ 2147483647) := ⟨i32_lo _, i32_hi _⟩
  have bv_28 : ((-2147483648) ≤ v_28.toInt ∧ v_28.toInt ≤ 2147483647) := ⟨i32_lo _, i32_hi _⟩
  have bv_35 : ((-2147483648) ≤ v_35.toInt ∧ v_35.toInt ≤ 2147483647) := ⟨i32_lo _, i32_hi _⟩
  have bv_41 : ((-2147483648) ≤ v_41.toInt ∧ v_41.toInt ≤ 2147483647) := ⟨i32_lo _, i32_hi _⟩
  have bv_56 : ((-2147483648) ≤ v_56.toInt ∧ v_56.toInt ≤ 2147483647) := ⟨i32_lo _, i32_hi _⟩
  refine tk_ViP (As := [.int p1, .int 2]) (rest := []) (n := 2) hx hb hml hown hU hN hZ (s_X12_ofRule_k12_c2_2 l (dC, dI) cI cL cZ cR cG cH Z kd L f hG o0 mo0 ko0 p1 (by constructor <;> omega)) wd_894 wd_895 wd_896 wd_5 wd_897 (by decide +kernel) ⟨Nat.le_of_ble_eq_true rfl, Nat.le_of_ble_eq_true rfl⟩ hK hP hD hS mo0 hfo_1 12 rfl rfl rfl hl.1 rfl (Nat.le_of_ble_eq_true rfl) dX12_never_3 ⟨Nat.le_of_ble_eq_true rfl, Nat.le_of_ble_eq_true rfl⟩ (fun x_58 f_59 H locs hw hP hD hS => ?_)
  obtain ⟨rfl, bx_58⟩ := hw
  refine lv_iconst (v := 1) hx hb dX12_never_6 (by decide) ?_
  refine lv_icmp_eq (tgt := 20) hx hb dX12_never_7 (by decide) (fun c_61 => ?_) (fun c_61 => ?_)
  · skip
    rw [← Int32.toInt_inj, ti_1] at c_61
    refine lv_iconst (v := 1) hx hb dX12_never_20 (by decide) ?_
    refine lv_goto (tgt := 25) hx hb dX12_never_21 (by decide) ?_
    exact W.zret (v := 1) (ty := .boolean) hx hb hr rfl (fun t ht hW => ⟨⟨1, f, rfl, ⟨rfl, (by decide)⟩, by rw [ht]; exact hP, va_K.moved hW.alike hK, pl_in hD⟩, hS.F ht⟩) hS.2.2 dX12_never_25
  · skip
    rw [← Int32.toInt_inj, ti_1] at c_61
    refine lv_aload_n hx hb dX12_never_10 rfl (lv_at hl 0 rfl) ?_
    refine lv_iload_n hx hb dX12_never_11 rfl (lv_at hl 1 rfl) ?_
    refine lv_iconst (v := 2) hx hb dX12_never_12 (by decide) ?_
    refine tk_ViP (As := [.int p1, .int 2]) (rest := []) (n := 2) hx hb hml hown hU hN hZ (s_X12_ofRule_k12_c2_2 l (dC, dI) cI cL cZ cR cG cH Z kd L f hG o0 mo0 ko0 p1 (by constructor <;> omega)) wd_894 wd_895 wd_896 wd_5 wd_897 (by decide +kernel) ⟨Nat.le_of_ble_eq_true rfl, Nat.le_of_ble_eq_true rfl⟩ hK hP hD hS mo0 hfo_1 12 rfl rfl rfl hl.1 rfl (Nat.le_of_ble_eq_true rfl) dX12_never_13 ⟨Nat.le_of_ble_eq_true rfl, Nat.le_of_ble_eq_true rfl⟩ (fun x_62 f_63 H locs hw hP hD hS => ?_)
    obtain ⟨rfl, bx_62⟩ := hw
    refine lv_iconst (v := 2) hx hb dX12_never_16 (by decide) ?_
    refine lv_icmp_ne (tgt := 24) hx hb dX12_never_17 (by decide) (fun c_65 => ?_) (fun c_65 => ?_)
    · skip
      rw [← Int32.toInt_inj, ti_2] at c_65
      refine lv_iconst (v := 0) hx hb dX12_never_24 (by decide) ?_
      exact W.zret (v := 0) (ty := .boolean) hx hb hr rfl (fun t ht hW => ⟨⟨0, f, rfl, ⟨rfl, (by decide)⟩, by rw [ht]; exact hP, va_K.moved hW.alike hK, pl_in hD⟩, hS.F ht⟩) hS.2.2 dX12_never_25
    · skip
      rw [← Int32.toInt_inj, ti_2] at c_65
      refine lv_iconst (v := 1) hx hb dX12_never_20 (by decide) ?_
      refine lv_goto (tgt := 25) hx hb dX12_never_21 (by decide) ?_
      exact W.zret (v := 1) (ty := .boolean) hx hb hr rfl (fun t ht hW => ⟨⟨1, f, rfl, ⟨rfl, (by decide)⟩, by rw [ht]; exact hP, va_K.moved hW.alike hK, pl_in hD⟩, hS.F ht⟩) hS.2.2 dX12_never_25
set_option maxHeartbeats 8000000 in
set_option maxRecDepth 100000 in
theorem s_X12_canQuarrel_k12 (l : Launch) (D : va_G) (cI cL cZ cR cG cH : ClassId) (Z : zT) (kd : Nat → Nat) (L : List Nat) (f : Nat → va_E) (hG : GI (okc cI cL cZ cR cG cH L kd) kd L f) (o0 : Nat) (mo0 : o0 ∈ L) (ko0 : kd o0 = 12) (p1 : Int32) (bp1 : (0 ≤ p1.toInt ∧ p1.toInt ≤ 7)) (p2 : Int32) (bp2 : (0 ≤ p2.toInt ∧ p2.toInt ≤ 7)) : mPI l D cI cL cZ cR cG cH Z yX12_canQuarrel cX12_canQuarrel 4 (some .boolean) 2 43 [.ref o0, .int p1, .int p2] L f (fun (r : Int32) (f9 : Nat → va_E) => f = f9 ∧ (0 ≤ r.toInt ∧ r.toInt ≤ 1)) := by
  obtain ⟨dC, dI⟩ := D
  refine Met.ofW (cc := cX12_canQuarrel) (maxL := 4) (ret := (some .boolean)) (by decide) rfl ?_
  intro p e s m args below meth c s₁ B hml hv
  obtain ⟨rfl, hP, hK, hD0, hN, hZ⟩ := hv
  have hx := B.exec
  have hb := B.bytes
  have hr := B.returns
  have hU : ∀ w ∈ wsU, w.before _ s = true := fun w h => atoms_spec (ws := wU yX12_canQuarrel cX12_canQuarrel 4 (some .boolean)) B.pre w (List.mem_cons_of_mem _ h)
  have hown : s.vm.findClass RX12 = some m.cls := findClass_of_methodNamed B.named
  have hlocks := B.notSynchronized
  have hD := pl_in hD0
  have hS : va_S (fun q => q ∈ L) s.heap s.heap [] := va_S.rf
  have hl := lv_entry ([.ref o0, .int p1, .int p2]) (n := 4) (Nat.le_of_ble_eq_true rfl)
  rw [lg_entry_eq]
  generalize (lg_sl ([.ref o0, .int p1, .int p2]) ++ List.replicate (4 - (lg_sl ([.ref o0, .int p1, .int p2])).length) Slot.unset).toArray = ls at hl ⊢
  have hl : lv_has ls 4 [(0, .ref o0), (1, .int p1), (2, .int p2)] := hl
  refine lv_aload_n hx hb dX12_canQuarrel_0 rfl (lv_at hl 0 rfl) ?_
  refine lv_iload_n hx hb dX12_canQuarrel_1 rfl (lv_at hl 1 rfl) ?_
  refine lv_iconst (v := 0) hx hb dX12_canQuarrel_2 (by decide) ?_
  obtain ⟨a_2, a_3, a_4, v_5, a_6, v_7, v_8, v_9, v_10, v_11, v_12, v_13, v_14, v_15, v_16, a_17, a_18, a_19, a_20, a_21, a_22, a_23, a_24, v_25, v_26, v_27, v_28, v_29, a_30, v_31, a_32, a_33, v_34, v_35, a_36, v_37, a_38, a_39, v_40, v_41, a_42, a_43, a_44, v_45, a_46, a_47, a_48, a_49, a_50, a_51, a_52, a_53, a_54, v_55, v_56, a_57, hfo_1, ⟨ma_2, ka_2⟩, ⟨ma_3, ka_3⟩, ⟨ma_4, ka_4⟩, bv_5, ⟨ma_6, ka_6⟩, bv_7, bv_8, bv_13, bv_14, bv_15, ⟨ma_17, ka_17⟩, ⟨ma_18, ka_18⟩, ⟨ma_19, ka_19⟩, ⟨ma_20, ka_20⟩, ⟨ma_21, ka_21⟩, ⟨ma_22, ka_22⟩, ⟨ma_23, ka_23⟩, ⟨ma_24, ka_24⟩, bv_25, bv_27, bv_29, ⟨ma_30, ka_30⟩, bv_31, ⟨ma_32, ka_32⟩, ⟨ma_33, ka_33⟩, bv_34, ⟨ma_36, ka_36⟩, bv_37, ⟨ma_38, ka_38⟩, ⟨ma_39, ka_39⟩, bv_40, ⟨ma_42, ka_42⟩, ⟨ma_43, ka_43⟩, ⟨ma_44, ka_44⟩, bv_45, ⟨ma_46, ka_46⟩, ⟨ma_47, ka_47⟩, ⟨ma_48, ka_48⟩, ⟨ma_49, ka_49⟩, ⟨ma_50, ka_50⟩, ⟨ma_51, ka_51⟩, ⟨ma_52, ka_52⟩, ⟨ma_53, ka_53⟩, ⟨ma_54, ka_54⟩, bv_55, ⟨ma_57, ka_57⟩⟩ := un_12 (hG _ mo0) ko0
  have bv_9 : ((-2147483648) ≤ v_9.toInt ∧ v_9.toInt ≤ 2147483647) := ⟨i32_lo _, i32_hi _⟩
  have bv_10 : ((-2147483648) ≤ v_10.toInt ∧ v_10.toInt ≤ 2147483647) := ⟨i32_lo _, i32_hi _⟩
  have bv_11 : ((-2147483648) ≤ v_11.toInt ∧ v_11.toInt ≤ 2147483647) := ⟨i32_lo _, i32_hi _⟩
  have bv_12 : ((-2147483648) ≤ v_12.toInt ∧ v_12.toInt ≤ 2147483647) := ⟨i32_lo _, i32_hi _⟩
  have bv_16 : ((-2147483648) ≤ v_16.toInt ∧ v_16.toInt ≤ 2147483647) := ⟨i32_lo _, i32_hi _⟩
  have bv_26 : ((-2147483648) ≤ v_26.toInt ∧ v_26.toInt ≤ 2147483647) := ⟨i32_lo _, i32_hi _⟩
  have bv_28 : ((-2147483648) ≤ v_28.toInt ∧ v_28.toInt ≤ 2147483647) := ⟨i32_lo _, i32_hi _⟩
  have bv_35 : ((-2147483648) ≤ v_35.toInt ∧ v_35.toInt ≤ 2147483647) := ⟨i32_lo _, i32_hi _⟩
  have bv_41 : ((-2147483648) ≤ v_41.toInt ∧ v_41.toInt ≤ 2147483647) := ⟨i32_lo _, i32_hi _⟩
  have bv_56 : ((-2147483648) ≤ v_56.toInt ∧ v_56.toInt ≤ 2147483647) := ⟨i32_lo _, i32_hi _⟩
  refine tk_ViP (As := [.int p1, .int 0]) (rest := []) (n := 2) hx hb hml hown hU hN hZ (s_X12_ofRule_k12 l (dC, dI) cI cL cZ cR cG cH Z kd L f hG o0 mo0 ko0 p1 (by constructor <;> omega) 0 (by decide)) wd_894 wd_895 wd_896 wd_5 wd_897 (by decide +kernel) ⟨Nat.le_of_ble_eq_true rfl, Nat.le_of_ble_eq_true rfl⟩ hK hP hD hS mo0 hfo_1 12 rfl rfl rfl hl.1 rfl (Nat.le_of_ble_eq_true rfl) dX12_canQuarrel_3 ⟨Nat.le_of_ble_eq_true rfl, Nat.le_of_ble_eq_true rfl⟩ (fun x_58 f_59 H locs hw hP hD hS => ?_)
  obtain ⟨rfl, bx_58⟩ := hw
  refine lv_aload_n hx hb dX12_canQuarrel_6 rfl (lv_at hl 0 rfl) ?_
  refine lv_iload_n hx hb dX12_canQuarrel_7 rfl (lv_at hl 2 rfl) ?_
  refine lv_iconst (v := 0) hx hb dX12_canQuarrel_8 (by decide) ?_
  refine tk_ViP (As := [.int p2, .int 0]) (rest := [.int x_58]) (n := 2) hx hb hml hown hU hN hZ (s_X12_ofRule_k12 l (dC, dI) cI cL cZ cR cG cH Z kd L f hG o0 mo0 ko0 p2 (by constructor <;> omega) 0 (by decide)) wd_894 wd_895 wd_896 wd_5 wd_897 (by decide +kernel) ⟨Nat.le_of_ble_eq_true rfl, Nat.le_of_ble_eq_true rfl⟩ hK hP hD hS mo0 hfo_1 12 rfl rfl rfl hl.1 rfl (Nat.le_of_ble_eq_true rfl) dX12_canQuarrel_9 ⟨Nat.le_of_ble_eq_true rfl, Nat.le_of_ble_eq_true rfl⟩ (fun x_61 f_62 H locs hw hP hD hS => ?_)
  obtain ⟨rfl, bx_61⟩ := hw
  refine lv_icmp_eq (tgt := 17) hx hb dX12_canQuarrel_12 (by decide) (fun c_64 => ?_) (fun c_64 => ?_)
  · skip
    rw [← Int32.toInt_inj] at c_64
    refine lv_aload_n hx hb dX12_canQuarrel_17 rfl (lv_at hl 0 rfl) ?_
    refine lv_iload_n hx hb dX12_canQuarrel_18 rfl (lv_at hl 1 rfl) ?_
    refine lv_iconst (v := 1) hx hb dX12_canQuarrel_19 (by decide) ?_
    refine tk_ViP (As := [.int p1, .int 1]) (rest := []) (n := 2) hx hb hml hown hU hN hZ (s_X12_ofRule_k12 l (dC, dI) cI cL cZ cR cG cH Z kd L f hG o0 mo0 ko0 p1 (by constructor <;> omega) 1 (by decide)) wd_894 wd_895 wd_896 wd_5 wd_897 (by decide +kernel) ⟨Nat.le_of_ble_eq_true rfl, Nat.le_of_ble_eq_true rfl⟩ hK hP hD hS mo0 hfo_1 12 rfl rfl rfl hl.1 rfl (Nat.le_of_ble_eq_true rfl) dX12_canQuarrel_20 ⟨Nat.le_of_ble_eq_true rfl, Nat.le_of_ble_eq_true rfl⟩ (fun x_65 f_66 H locs hw hP hD hS => ?_)
    obtain ⟨rfl, bx_65⟩ := hw
    refine lv_aload_n hx hb dX12_canQuarrel_23 rfl (lv_at hl 0 rfl) ?_
    refine lv_iload_n hx hb dX12_canQuarrel_24 rfl (lv_at hl 2 rfl) ?_
    refine lv_iconst (v := 1) hx hb dX12_canQuarrel_25 (by decide) ?_
    refine tk_ViP (As := [.int p2, .int 1]) (rest := [.int x_65]) (n := 2) hx hb hml hown hU hN hZ (s_X12_ofRule_k12 l (dC, dI) cI cL cZ cR cG cH Z kd L f hG o0 mo0 ko0 p2 (by constructor <;> omega) 1 (by decide)) wd_894 wd_895 wd_896 wd_5 wd_897 (by decide +kernel) ⟨Nat.le_of_ble_eq_true rfl, Nat.le_of_ble_eq_true rfl⟩ hK hP hD hS mo0 hfo_1 12 rfl rfl rfl hl.1 rfl (Nat.le_of_ble_eq_true rfl) dX12_canQuarrel_26 ⟨Nat.le_of_ble_eq_true rfl, Nat.le_of_ble_eq_true rfl⟩ (fun x_68 f_69 H locs hw hP hD hS => ?_)
    obtain ⟨rfl, bx_68⟩ := hw
    have hcut_72 : ∀ (y_71 : Int32), (0 ≤ y_71.toInt ∧ y_71.toInt ≤ 1) → ∀ (ls : Array Slot), lv_has ls 4 [(0, .ref o0), (1, .int p1), (2, .int p2)] → W p l e (headSpec (wU yX12_canQuarrel cX12_canQuarrel 4 (some .boolean)) { frames := 2, cells := 0, slots := 0, locals := 43 }).room s m [.ref o0, .int p1, .int p2].toArray below meth c H locs 0 0 (MQ below (va_Qi (fun (r : Int32) (f9 : Nat → va_E) => f = f9 ∧ (0 ≤ r.toInt ∧ r.toInt ≤ 1)) (qP (dC, dI) cI cL cZ cR cG cH L) (fun q => q ∈ L)) [.ref o0, .int p1, .int p2].toArray s 0 0 (fun q => q ∈ L)) (F0 m 37 ls [.int y_71]) := by
      intro y_71 by_71 ls hl
      refine lv_istore_n (lv' := [(3, .int y_71), (0, .ref o0), (1, .int p1), (2, .int p2)]) hx hb dX12_canQuarrel_37 rfl hl (by decide) rfl (fun ls hl => ?_)
      refine lv_aload_n hx hb dX12_canQuarrel_38 rfl (lv_at hl 1 rfl) ?_
      refine lv_iload_n hx hb dX12_canQuarrel_39 rfl (lv_at hl 2 rfl) ?_
      refine tk_ViP (As := [.int p1]) (rest := []) (n := 1) hx hb hml hown hU hN hZ (s_X12_never_k12 l (dC, dI) cI cL cZ cR cG cH Z kd L f hG o0 mo0 ko0 p1 (by constructor <;> omega)) wd_1297 wd_1298 wd_1299 wd_5 wd_1300 (by decide +kernel) ⟨Nat.le_of_ble_eq_true rfl, Nat.le_of_ble_eq_true rfl⟩ hK hP hD hS mo0 hfo_1 12 rfl rfl rfl hl.1 rfl (Nat.le_of_ble_eq_true rfl) dX12_canQuarrel_40 ⟨Nat.le_of_ble_eq_true rfl, Nat.le_of_ble_eq_true rfl⟩ (fun x_73 f_74 H locs hw hP hD hS => ?_)
      obtain ⟨rfl, bx_73⟩ := hw
      refine lv_if_eq (tgt := 58) hx hb dX12_canQuarrel_43 (by decide) (fun c_76 => ?_) (fun c_76 => ?_)
      · skip
        rw [← Int32.toInt_inj, ti_0] at c_76
        refine lv_iload_n hx hb dX12_canQuarrel_58 rfl (lv_at hl 0 rfl) ?_
        refine lv_if_eq (tgt := 102) hx hb dX12_canQuarrel_59 (by decide) (fun c_77 => ?_) (fun c_77 => ?_)
        · skip
          rw [← Int32.toInt_inj, ti_0] at c_77
          refine lv_iconst (v := 0) hx hb dX12_canQuarrel_102 (by decide) ?_
          exact W.zret (v := 0) (ty := .boolean) hx hb hr rfl (fun t ht hW => ⟨⟨0, f, rfl, ⟨rfl, (by decide)⟩, by rw [ht]; exact hP, va_K.moved hW.alike hK, pl_in hD⟩, hS.F ht⟩) hS.2.2 dX12_canQuarrel_103
        · skip
          rw [← Int32.toInt_inj, ti_0] at c_77
          refine lv_aload_n hx hb dX12_canQuarrel_62 rfl (lv_at hl 1 rfl) ?_
          refine lv_iload_n hx hb dX12_canQuarrel_63 rfl (lv_at hl 2 rfl) ?_
          refine tk_ViP (As := [.int p1]) (rest := []) (n := 1) hx hb hml hown hU hN hZ (s_X12_never_k12 l (dC, dI) cI cL cZ cR cG cH Z kd L f hG o0 mo0 ko0 p1 (by constructor <;> omega)) wd_1297 wd_1298 wd_1299 wd_5 wd_1300 (by decide +kernel) ⟨Nat.le_of_ble_eq_true rfl, Nat.le_of_ble_eq_true rfl⟩ hK hP hD hS mo0 hfo_1 12 rfl rfl rfl hl.1 rfl (Nat.le_of_ble_eq_true rfl) dX12_canQuarrel_64 ⟨Nat.le_of_ble_eq_true rfl, Nat.le_of_ble_eq_true rfl⟩ (fun x_78 f_79 H locs hw hP hD hS => ?_)
          obtain ⟨rfl, bx_78⟩ := hw
          refine lv_if_eq (tgt := 80) hx hb dX12_canQuarrel_67 (by decide) (fun c_81 => ?_) (fun c_81 => ?_)
          · skip
            rw [← Int32.toInt_inj, ti_0] at c_81
            refine lv_aload_n hx hb dX12_canQuarrel_80 rfl (lv_at hl 1 rfl) ?_
            refine lv_iload_n hx hb dX12_canQuarrel_81 rfl (lv_at hl 3 rfl) ?_
            refine tk_ViP (As := [.int p2]) (rest := []) (n := 1) hx hb hml hown hU hN hZ (s_X12_never_k12 l (dC, dI) cI cL cZ cR cG cH Z kd L f hG o0 mo0 ko0 p2 (by constructor <;> omega)) wd_1297 wd_1298 wd_1299 wd_5 wd_1300 (by decide +kernel) ⟨Nat.le_of_ble_eq_true rfl, Nat.le_of_ble_eq_true rfl⟩ hK hP hD hS mo0 hfo_1 12 rfl rfl rfl hl.1 rfl (Nat.le_of_ble_eq_true rfl) dX12_canQuarrel_82 ⟨Nat.le_of_ble_eq_true rfl, Nat.le_of_ble_eq_true rfl⟩ (fun x_82 f_83 H locs hw hP hD hS => ?_)
            obtain ⟨rfl, bx_82⟩ := hw
            refine lv_if_eq (tgt := 102) hx hb dX12_canQuarrel_85 (by decide) (fun c_85 => ?_) (fun c_85 => ?_)
            · skip
              rw [← Int32.toInt_inj, ti_0] at c_85
              refine lv_iconst (v := 0) hx hb dX12_canQuarrel_102 (by decide) ?_
              exact W.zret (v := 0) (ty := .boolean) hx hb hr rfl (fun t ht hW => ⟨⟨0, f, rfl, ⟨rfl, (by decide)⟩, by rw [ht]; exact hP, va_K.moved hW.alike hK, pl_in hD⟩, hS.F ht⟩) hS.2.2 dX12_canQuarrel_103
            · skip
              rw [← Int32.toInt_inj, ti_0] at c_85
              refine lv_aload_n hx hb dX12_canQuarrel_88 rfl (lv_at hl 1 rfl) ?_
              refine lv_iload_n hx hb dX12_canQuarrel_89 rfl (lv_at hl 2 rfl) ?_
              refine lv_iconst (v := 2) hx hb dX12_canQuarrel_90 (by decide) ?_
              refine tk_ViP (As := [.int p1, .int 2]) (rest := []) (n := 2) hx hb hml hown hU hN hZ (s_X12_ofRule_k12_c2_2 l (dC, dI) cI cL cZ cR cG cH Z kd L f hG o0 mo0 ko0 p1 (by constructor <;> omega)) wd_894 wd_895 wd_896 wd_5 wd_897 (by decide +kernel) ⟨Nat.le_of_ble_eq_true rfl, Nat.le_of_ble_eq_true rfl⟩ hK hP hD hS mo0 hfo_1 12 rfl rfl rfl hl.1 rfl (Nat.le_of_ble_eq_true rfl) dX12_canQuarrel_91 ⟨Nat.le_of_ble_eq_true rfl, Nat.le_of_ble_eq_true rfl⟩ (fun x_86 f_87 H locs hw hP hD hS => ?_)
              obtain ⟨rfl, bx_86⟩ := hw
              refine lv_iconst (v := 3) hx hb dX12_canQuarrel_94 (by decide) ?_
              refine lv_icmp_ne (tgt := 102) hx hb dX12_canQuarrel_95 (by decide) (fun c_89 => ?_) (fun c_89 => ?_)
              · skip
                rw [← Int32.toInt_inj, ti_3] at c_89
                refine lv_iconst (v := 0) hx hb dX12_canQuarrel_102 (by decide) ?_
                exact W.zret (v := 0) (ty := .boolean) hx hb hr rfl (fun t ht hW => ⟨⟨0, f, rfl, ⟨rfl, (by decide)⟩, by rw [ht]; exact hP, va_K.moved hW.alike hK, pl_in hD⟩, hS.F ht⟩) hS.2.2 dX12_canQuarrel_103
              · skip
                rw [← Int32.toInt_inj, ti_3] at c_89
                refine lv_iconst (v := 1) hx hb dX12_canQuarrel_98 (by decide) ?_
                refine lv_goto (tgt := 103) hx hb dX12_canQuarrel_99 (by decide) ?_
                exact W.zret (v := 1) (ty := .boolean) hx hb hr rfl (fun t ht hW => ⟨⟨1, f, rfl, ⟨rfl, (by decide)⟩, by rw [ht]; exact hP, va_K.moved hW.alike hK, pl_in hD⟩, hS.F ht⟩) hS.2.2 dX12_canQuarrel_103
          · skip
            rw [← Int32.toInt_inj, ti_0] at c_81
            refine lv_aload_n hx hb dX12_canQuarrel_70 rfl (lv_at hl 1 rfl) ?_
            refine lv_iload_n hx hb dX12_canQuarrel_71 rfl (lv_at hl 3 rfl) ?_
            refine lv_iconst (v := 2) hx hb dX12_canQuarrel_72 (by decide) ?_
            refine tk_ViP (As := [.int p2, .int 2]) (rest := []) (n := 2) hx hb hml hown hU hN hZ (s_X12_ofRule_k12_c2_2 l (dC, dI) cI cL cZ cR cG cH Z kd L f hG o0 mo0 ko0 p2 (by constructor <;> omega)) wd_894 wd_895 wd_896 wd_5 wd_897 (by decide +kernel) ⟨Nat.le_of_ble_eq_true rfl, Nat.le_of_ble_eq_true rfl⟩ hK hP hD hS mo0 hfo_1 12 rfl rfl rfl hl.1 rfl (Nat.le_of_ble_eq_true rfl) dX12_canQuarrel_73 ⟨Nat.le_of_ble_eq_true rfl, Nat.le_of_ble_eq_true rfl⟩ (fun x_90 f_91 H locs hw hP hD hS => ?_)
            obtain ⟨rfl, bx_90⟩ := hw
            refine lv_iconst (v := 3) hx hb dX12_canQuarrel_76 (by decide) ?_
            refine lv_icmp_eq (tgt := 98) hx hb dX12_canQuarrel_77 (by decide) (fun c_93 => ?_) (fun c_93 => ?_)
            · skip
              rw [← Int32.toInt_inj, ti_3] at c_93
              refine lv_iconst (v := 1) hx hb dX12_canQuarrel_98 (by decide) ?_
              refine lv_goto (tgt := 103) hx hb dX12_canQuarrel_99 (by decide) ?_
              exact W.zret (v := 1) (ty := .boolean) hx hb hr rfl (fun t ht hW => ⟨⟨1, f, rfl, ⟨rfl, (by decide)⟩, by rw [ht]; exact hP, va_K.moved hW.alike hK, pl_in hD⟩, hS.F ht⟩) hS.2.2 dX12_canQuarrel_103
            · skip
              rw [← Int32.toInt_inj, ti_3] at c_93
              refine lv_aload_n hx hb dX12_canQuarrel_80 rfl (lv_at hl 1 rfl) ?_
              refine lv_iload_n hx hb dX12_canQuarrel_81 rfl (lv_at hl 3 rfl) ?_
              refine tk_ViP (As := [.int p2]) (rest := []) (n := 1) hx hb hml hown hU hN hZ (s_X12_never_k12 l (dC, dI) cI cL cZ cR cG cH Z kd L f hG o0 mo0 ko0 p2 (by constructor <;> omega)) wd_1297 wd_1298 wd_1299 wd_5 wd_1300 (by decide +kernel) ⟨Nat.le_of_ble_eq_true rfl, Nat.le_of_ble_eq_true rfl⟩ hK hP hD hS mo0 hfo_1 12 rfl rfl rfl hl.1 rfl (Nat.le_of_ble_eq_true rfl) dX12_canQuarrel_82 ⟨Nat.le_of_ble_eq_true rfl, Nat.le_of_ble_eq_true rfl⟩ (fun x_94 f_95 H locs hw hP hD hS => ?_)
              obtain ⟨rfl, bx_94⟩ := hw
              refine lv_if_eq (tgt := 102) hx hb dX12_canQuarrel_85 (by decide) (fun c_97 => ?_) (fun c_97 => ?_)
              · skip
                rw [← Int32.toInt_inj, ti_0] at c_97
                refine lv_iconst (v := 0) hx hb dX12_canQuarrel_102 (by decide) ?_
                exact W.zret (v := 0) (ty := .boolean) hx hb hr rfl (fun t ht hW => ⟨⟨0, f, rfl, ⟨rfl, (by decide)⟩, by rw [ht]; exact hP, va_K.moved hW.alike hK, pl_in hD⟩, hS.F ht⟩) hS.2.2 dX12_canQuarrel_103
              · skip
                rw [← Int32.toInt_inj, ti_0] at c_97
                refine lv_aload_n hx hb dX12_canQuarrel_88 rfl (lv_at hl 1 rfl) ?_
                refine lv_iload_n hx hb dX12_canQuarrel_89 rfl (lv_at hl 2 rfl) ?_
                refine lv_iconst (v := 2) hx hb dX12_canQuarrel_90 (by decide) ?_
                refine tk_ViP (As := [.int p1, .int 2]) (rest := []) (n := 2) hx hb hml hown hU hN hZ (s_X12_ofRule_k12_c2_2 l (dC, dI) cI cL cZ cR cG cH Z kd L f hG o0 mo0 ko0 p1 (by constructor <;> omega)) wd_894 wd_895 wd_896 wd_5 wd_897 (by decide +kernel) ⟨Nat.le_of_ble_eq_true rfl, Nat.le_of_ble_eq_true rfl⟩ hK hP hD hS mo0 hfo_1 12 rfl rfl rfl hl.1 rfl (Nat.le_of_ble_eq_true rfl) dX12_canQuarrel_91 ⟨Nat.le_of_ble_eq_true rfl, Nat.le_of_ble_eq_true rfl⟩ (fun x_98 f_99 H locs hw hP hD hS => ?_)
                obtain ⟨rfl, bx_98⟩ := hw
                refine lv_iconst (v := 3) hx hb dX12_canQuarrel_94 (by decide) ?_
                refine lv_icmp_ne (tgt := 102) hx hb dX12_canQuarrel_95 (by decide) (fun c_101 => ?_) (fun c_101 => ?_)
                · skip
                  rw [← Int32.toInt_inj, ti_3] at c_101
                  refine lv_iconst (v := 0) hx hb dX12_canQuarrel_102 (by decide) ?_
                  exact W.zret (v := 0) (ty := .boolean) hx hb hr rfl (fun t ht hW => ⟨⟨0, f, rfl, ⟨rfl, (by decide)⟩, by rw [ht]; exact hP, va_K.moved hW.alike hK, pl_in hD⟩, hS.F ht⟩) hS.2.2 dX12_canQuarrel_103
                · skip
                  rw [← Int32.toInt_inj, ti_3] at c_101
                  refine lv_iconst (v := 1) hx hb dX12_canQuarrel_98 (by decide) ?_
                  refine lv_goto (tgt := 103) hx hb dX12_canQuarrel_99 (by decide) ?_
                  exact W.zret (v := 1) (ty := .boolean) hx hb hr rfl (fun t ht hW => ⟨⟨1, f, rfl, ⟨rfl, (by decide)⟩, by rw [ht]; exact hP, va_K.moved hW.alike hK, pl_in hD⟩, hS.F ht⟩) hS.2.2 dX12_canQuarrel_103
      · skip
        rw [← Int32.toInt_inj, ti_0] at c_76
        refine lv_aload_n hx hb dX12_canQuarrel_46 rfl (lv_at hl 1 rfl) ?_
        refine lv_iload_n hx hb dX12_canQuarrel_47 rfl (lv_at hl 3 rfl) ?_
        refine tk_ViP (As := [.int p2]) (rest := []) (n := 1) hx hb hml hown hU hN hZ (s_X12_never_k12 l (dC, dI) cI cL cZ cR cG cH Z kd L f hG o0 mo0 ko0 p2 (by constructor <;> omega)) wd_1297 wd_1298 wd_1299 wd_5 wd_1300 (by decide +kernel) ⟨Nat.le_of_ble_eq_true rfl, Nat.le_of_ble_eq_true rfl⟩ hK hP hD hS mo0 hfo_1 12 rfl rfl rfl hl.1 rfl (Nat.le_of_ble_eq_true rfl) dX12_canQuarrel_48 ⟨Nat.le_of_ble_eq_true rfl, Nat.le_of_ble_eq_true rfl⟩ (fun x_102 f_103 H locs hw hP hD hS => ?_)
        obtain ⟨rfl, bx_102⟩ := hw
        refine lv_if_eq (tgt := 58) hx hb dX12_canQuarrel_51 (by decide) (fun c_105 => ?_) (fun c_105 => ?_)
        · skip
          rw [← Int32.toInt_inj, ti_0] at c_105
          refine lv_iload_n hx hb dX12_canQuarrel_58 rfl (lv_at hl 0 rfl) ?_
          refine lv_if_eq (tgt := 102) hx hb dX12_canQuarrel_59 (by decide) (fun c_106 => ?_) (fun c_106 => ?_)
          · skip
            rw [← Int32.toInt_inj, ti_0] at c_106
            refine lv_iconst (v := 0) hx hb dX12_canQuarrel_102 (by decide) ?_
            exact W.zret (v := 0) (ty := .boolean) hx hb hr rfl (fun t ht hW => ⟨⟨0, f, rfl, ⟨rfl, (by decide)⟩, by rw [ht]; exact hP, va_K.moved hW.alike hK, pl_in hD⟩, hS.F ht⟩) hS.2.2 dX12_canQuarrel_103
          · skip
            rw [← Int32.toInt_inj, ti_0] at c_106
            refine lv_aload_n hx hb dX12_canQuarrel_62 rfl (lv_at hl 1 rfl) ?_
            refine lv_iload_n hx hb dX12_canQuarrel_63 rfl (lv_at hl 2 rfl) ?_
            refine tk_ViP (As := [.int p1]) (rest := []) (n := 1) hx hb hml hown hU hN hZ (s_X12_never_k12 l (dC, dI) cI cL cZ cR cG cH Z kd L f hG o0 mo0 ko0 p1 (by constructor <;> omega)) wd_1297 wd_1298 wd_1299 wd_5 wd_1300 (by decide +kernel) ⟨Nat.le_of_ble_eq_true rfl, Nat.le_of_ble_eq_true rfl⟩ hK hP hD hS mo0 hfo_1 12 rfl rfl rfl hl.1 rfl (Nat.le_of_ble_eq_true rfl) dX12_canQuarrel_64 ⟨Nat.le_of_ble_eq_true rfl, Nat.le_of_ble_eq_true rfl⟩ (fun x_107 f_108 H locs hw hP hD hS => ?_)
            obtain ⟨rfl, bx_107⟩ := hw
            refine lv_if_eq (tgt := 80) hx hb dX12_canQuarrel_67 (by decide) (fun c_110 => ?_) (fun c_110 => ?_)
            · skip
              rw [← Int32.toInt_inj, ti_0] at c_110
              refine lv_aload_n hx hb dX12_canQuarrel_80 rfl (lv_at hl 1 rfl) ?_
              refine lv_iload_n hx hb dX12_canQuarrel_81 rfl (lv_at hl 3 rfl) ?_
              refine tk_ViP (As := [.int p2]) (rest := []) (n := 1) hx hb hml hown hU hN hZ (s_X12_never_k12 l (dC, dI) cI cL cZ cR cG cH Z kd L f hG o0 mo0 ko0 p2 (by constructor <;> omega)) wd_1297 wd_1298 wd_1299 wd_5 wd_1300 (by decide +kernel) ⟨Nat.le_of_ble_eq_true rfl, Nat.le_of_ble_eq_true rfl⟩ hK hP hD hS mo0 hfo_1 12 rfl rfl rfl hl.1 rfl (Nat.le_of_ble_eq_true rfl) dX12_canQuarrel_82 ⟨Nat.le_of_ble_eq_true rfl, Nat.le_of_ble_eq_true rfl⟩ (fun x_111 f_112 H locs hw hP hD hS => ?_)
              obtain ⟨rfl, bx_111⟩ := hw
              refine lv_if_eq (tgt := 102) hx hb dX12_canQuarrel_85 (by decide) (fun c_114 => ?_) (fun c_114 => ?_)
              · skip
                rw [← Int32.toInt_inj, ti_0] at c_114
                refine lv_iconst (v := 0) hx hb dX12_canQuarrel_102 (by decide) ?_
                exact W.zret (v := 0) (ty := .boolean) hx hb hr rfl (fun t ht hW => ⟨⟨0, f, rfl, ⟨rfl, (by decide)⟩, by rw [ht]; exact hP, va_K.moved hW.alike hK, pl_in hD⟩, hS.F ht⟩) hS.2.2 dX12_canQuarrel_103
              · skip
                rw [← Int32.toInt_inj, ti_0] at c_114
                refine lv_aload_n hx hb dX12_canQuarrel_88 rfl (lv_at hl 1 rfl) ?_
                refine lv_iload_n hx hb dX12_canQuarrel_89 rfl (lv_at hl 2 rfl) ?_
                refine lv_iconst (v := 2) hx hb dX12_canQuarrel_90 (by decide) ?_
                refine tk_ViP (As := [.int p1, .int 2]) (rest := []) (n := 2) hx hb hml hown hU hN hZ (s_X12_ofRule_k12_c2_2 l (dC, dI) cI cL cZ cR cG cH Z kd L f hG o0 mo0 ko0 p1 (by constructor <;> omega)) wd_894 wd_895 wd_896 wd_5 wd_897 (by decide +kernel) ⟨Nat.le_of_ble_eq_true rfl, Nat.le_of_ble_eq_true rfl⟩ hK hP hD hS mo0 hfo_1 12 rfl rfl rfl hl.1 rfl (Nat.le_of_ble_eq_true rfl) dX12_canQuarrel_91 ⟨Nat.le_of_ble_eq_true rfl, Nat.le_of_ble_eq_true rfl⟩ (fun x_115 f_116 H locs hw hP hD hS => ?_)
                obtain ⟨rfl, bx_115⟩ := hw
                refine lv_iconst (v := 3) hx hb dX12_canQuarrel_94 (by decide) ?_
                refine lv_icmp_ne (tgt := 102) hx hb dX12_canQuarrel_95 (by decide) (fun c_118 => ?_) (fun c_118 => ?_)
                · skip
                  rw [← Int32.toInt_inj, ti_3] at c_118
                  refine lv_iconst (v := 0) hx hb dX12_canQuarrel_102 (by decide) ?_
                  exact W.zret (v := 0) (ty := .boolean) hx hb hr rfl (fun t ht hW => ⟨⟨0, f, rfl, ⟨rfl, (by decide)⟩, by rw [ht]; exact hP, va_K.moved hW.alike hK, pl_in hD⟩, hS.F ht⟩) hS.2.2 dX12_canQuarrel_103
                · skip
                  rw [← Int32.toInt_inj, ti_3] at c_118
                  refine lv_iconst (v := 1) hx hb dX12_canQuarrel_98 (by decide) ?_
                  refine lv_goto (tgt := 103) hx hb dX12_canQuarrel_99 (by decide) ?_
                  exact W.zret (v := 1) (ty := .boolean) hx hb hr rfl (fun t ht hW => ⟨⟨1, f, rfl, ⟨rfl, (by decide)⟩, by rw [ht]; exact hP, va_K.moved hW.alike hK, pl_in hD⟩, hS.F ht⟩) hS.2.2 dX12_canQuarrel_103
            · skip
              rw [← Int32.toInt_inj, ti_0] at c_110
              refine lv_aload_n hx hb dX12_canQuarrel_70 rfl (lv_at hl 1 rfl) ?_
              refine lv_iload_n hx hb dX12_canQuarrel_71 rfl (lv_at hl 3 rfl) ?_
              refine lv_iconst (v := 2) hx hb dX12_canQuarrel_72 (by decide) ?_
              refine tk_ViP (As := [.int p2, .int 2]) (rest := []) (n := 2) hx hb hml hown hU hN hZ (s_X12_ofRule_k12_c2_2 l (dC, dI) cI cL cZ cR cG cH Z kd L f hG o0 mo0 ko0 p2 (by constructor <;> omega)) wd_894 wd_895 wd_896 wd_5 wd_897 (by decide +kernel) ⟨Nat.le_of_ble_eq_true rfl, Nat.le_of_ble_eq_true rfl⟩ hK hP hD hS mo0 hfo_1 12 rfl rfl rfl hl.1 rfl (Nat.le_of_ble_eq_true rfl) dX12_canQuarrel_73 ⟨Nat.le_of_ble_eq_true rfl, Nat.le_of_ble_eq_true rfl⟩ (fun x_119 f_120 H locs hw hP hD hS => ?_)
              obtain ⟨rfl, bx_119⟩ := hw
              refine lv_iconst (v := 3) hx hb dX12_canQuarrel_76 (by decide) ?_
              refine lv_icmp_eq (tgt := 98) hx hb dX12_canQuarrel_77 (by decide) (fun c_122 => ?_) (fun c_122 => ?_)
              · skip
                rw [← Int32.toInt_inj, ti_3] at c_122
                refine lv_iconst (v := 1) hx hb dX12_canQuarrel_98 (by decide) ?_
                refine lv_goto (tgt := 103) hx hb dX12_canQuarrel_99 (by decide) ?_
                exact W.zret (v := 1) (ty := .boolean) hx hb hr rfl (fun t ht hW => ⟨⟨1, f, rfl, ⟨rfl, (by decide)⟩, by rw [ht]; exact hP, va_K.moved hW.alike hK, pl_in hD⟩, hS.F ht⟩) hS.2.2 dX12_canQuarrel_103
              · skip
                rw [← Int32.toInt_inj, ti_3] at c_122
                refine lv_aload_n hx hb dX12_canQuarrel_80 rfl (lv_at hl 1 rfl) ?_
                refine lv_iload_n hx hb dX12_canQuarrel_81 rfl (lv_at hl 3 rfl) ?_
                refine tk_ViP (As := [.int p2]) (rest := []) (n := 1) hx hb hml hown hU hN hZ (s_X12_never_k12 l (dC, dI) cI cL cZ cR cG cH Z kd L f hG o0 mo0 ko0 p2 (by constructor <;> omega)) wd_1297 wd_1298 wd_1299 wd_5 wd_1300 (by decide +kernel) ⟨Nat.le_of_ble_eq_true rfl, Nat.le_of_ble_eq_true rfl⟩ hK hP hD hS mo0 hfo_1 12 rfl rfl rfl hl.1 rfl (Nat.le_of_ble_eq_true rfl) dX12_canQuarrel_82 ⟨Nat.le_of_ble_eq_true rfl, Nat.le_of_ble_eq_true rfl⟩ (fun x_123 f_124 H locs hw hP hD hS => ?_)
                obtain ⟨rfl, bx_123⟩ := hw
                refine lv_if_eq (tgt := 102) hx hb dX12_canQuarrel_85 (by decide) (fun c_126 => ?_) (fun c_126 => ?_)
                · skip
                  rw [← Int32.toInt_inj, ti_0] at c_126
                  refine lv_iconst (v := 0) hx hb dX12_canQuarrel_102 (by decide) ?_
                  exact W.zret (v := 0) (ty := .boolean) hx hb hr rfl (fun t ht hW => ⟨⟨0, f, rfl, ⟨rfl, (by decide)⟩, by rw [ht]; exact hP, va_K.moved hW.alike hK, pl_in hD⟩, hS.F ht⟩) hS.2.2 dX12_canQuarrel_103
                · skip
                  rw [← Int32.toInt_inj, ti_0] at c_126
                  refine lv_aload_n hx hb dX12_canQuarrel_88 rfl (lv_at hl 1 rfl) ?_
                  refine lv_iload_n hx hb dX12_canQuarrel_89 rfl (lv_at hl 2 rfl) ?_
                  refine lv_iconst (v := 2) hx hb dX12_canQuarrel_90 (by decide) ?_
                  refine tk_ViP (As := [.int p1, .int 2]) (rest := []) (n := 2) hx hb hml hown hU hN hZ (s_X12_ofRule_k12_c2_2 l (dC, dI) cI cL cZ cR cG cH Z kd L f hG o0 mo0 ko0 p1 (by constructor <;> omega)) wd_894 wd_895 wd_896 wd_5 wd_897 (by decide +kernel) ⟨Nat.le_of_ble_eq_true rfl, Nat.le_of_ble_eq_true rfl⟩ hK hP hD hS mo0 hfo_1 12 rfl rfl rfl hl.1 rfl (Nat.le_of_ble_eq_true rfl) dX12_canQuarrel_91 ⟨Nat.le_of_ble_eq_true rfl, Nat.le_of_ble_eq_true rfl⟩ (fun x_127 f_128 H locs hw hP hD hS => ?_)
                  obtain ⟨rfl, bx_127⟩ := hw
                  refine lv_iconst (v := 3) hx hb dX12_canQuarrel_94 (by decide) ?_
                  refine lv_icmp_ne (tgt := 102) hx hb dX12_canQuarrel_95 (by decide) (fun c_130 => ?_) (fun c_130 => ?_)
                  · skip
                    rw [← Int32.toInt_inj, ti_3] at c_130
                    refine lv_iconst (v := 0) hx hb dX12_canQuarrel_102 (by decide) ?_
                    exact W.zret (v := 0) (ty := .boolean) hx hb hr rfl (fun t ht hW => ⟨⟨0, f, rfl, ⟨rfl, (by decide)⟩, by rw [ht]; exact hP, va_K.moved hW.alike hK, pl_in hD⟩, hS.F ht⟩) hS.2.2 dX12_canQuarrel_103
                  · skip
                    rw [← Int32.toInt_inj, ti_3] at c_130
                    refine lv_iconst (v := 1) hx hb dX12_canQuarrel_98 (by decide) ?_
                    refine lv_goto (tgt := 103) hx hb dX12_canQuarrel_99 (by decide) ?_
                    exact W.zret (v := 1) (ty := .boolean) hx hb hr rfl (fun t ht hW => ⟨⟨1, f, rfl, ⟨rfl, (by decide)⟩, by rw [ht]; exact hP, va_K.moved hW.alike hK, pl_in hD⟩, hS.F ht⟩) hS.2.2 dX12_canQuarrel_103
        · skip
          rw [← Int32.toInt_inj, ti_0] at c_105
          refine lv_iload_n hx hb dX12_canQuarrel_54 rfl (lv_at hl 0 rfl) ?_
          refine lv_if_eq (tgt := 98) hx hb dX12_canQuarrel_55 (by decide) (fun c_131 => ?_) (fun c_131 => ?_)
          · skip
            rw [← Int32.toInt_inj, ti_0] at c_131
            refine lv_iconst (v := 1) hx hb dX12_canQuarrel_98 (by decide) ?_
            refine lv_goto (tgt := 103) hx hb dX12_canQuarrel_99 (by decide) ?_
            exact W.zret (v := 1) (ty := .boolean) hx hb hr rfl (fun t ht hW => ⟨⟨1, f, rfl, ⟨rfl, (by decide)⟩, by rw [ht]; exact hP, va_K.moved hW.alike hK, pl_in hD⟩, hS.F ht⟩) hS.2.2 dX12_canQuarrel_103
          · skip
            rw [← Int32.toInt_inj, ti_0] at c_131
            refine lv_iload_n hx hb dX12_canQuarrel_58 rfl (lv_at hl 0 rfl) ?_
            refine lv_if_eq (tgt := 102) hx hb dX12_canQuarrel_59 (by decide) (fun c_132 => ?_) (fun c_132 => ?_)
            · skip
              rw [← Int32.toInt_inj, ti_0] at c_132
              exfalso
              omega
            · skip
              rw [← Int32.toInt_inj, ti_0] at c_132
              refine lv_aload_n hx hb dX12_canQuarrel_62 rfl (lv_at hl 1 rfl) ?_
              refine lv_iload_n hx hb dX12_canQuarrel_63 rfl (lv_at hl 2 rfl) ?_
              refine tk_ViP (As := [.int p1]) (rest := []) (n := 1) hx hb hml hown hU hN hZ (s_X12_never_k12 l (dC, dI) cI cL cZ cR cG cH Z kd L f hG o0 mo0 ko0 p1 (by constructor <;> omega)) wd_1297 wd_1298 wd_1299 wd_5 wd_1300 (by decide +kernel) ⟨Nat.le_of_ble_eq_true rfl, Nat.le_of_ble_eq_true rfl⟩ hK hP hD hS mo0 hfo_1 12 rfl rfl rfl hl.1 rfl (Nat.le_of_ble_eq_true rfl) dX12_canQuarrel_64 ⟨Nat.le_of_ble_eq_true rfl, Nat.le_of_ble_eq_true rfl⟩ (fun x_133 f_134 H locs hw hP hD hS => ?_)
              obtain ⟨rfl, bx_133⟩ := hw
              refine lv_if_eq (tgt := 80) hx hb dX12_canQuarrel_67 (by decide) (fun c_136 => ?_) (fun c_136 => ?_)
              · skip
                rw [← Int32.toInt_inj, ti_0] at c_136
                refine lv_aload_n hx hb dX12_canQuarrel_80 rfl (lv_at hl 1 rfl) ?_
                refine lv_iload_n hx hb dX12_canQuarrel_81 rfl (lv_at hl 3 rfl) ?_
                refine tk_ViP (As := [.int p2]) (rest := []) (n := 1) hx hb hml hown hU hN hZ (s_X12_never_k12 l (dC, dI) cI cL cZ cR cG cH Z kd L f hG o0 mo0 ko0 p2 (by constructor <;> omega)) wd_1297 wd_1298 wd_1299 wd_5 wd_1300 (by decide +kernel) ⟨Nat.le_of_ble_eq_true rfl, Nat.le_of_ble_eq_true rfl⟩ hK hP hD hS mo0 hfo_1 12 rfl rfl rfl hl.1 rfl (Nat.le_of_ble_eq_true rfl) dX12_canQuarrel_82 ⟨Nat.le_of_ble_eq_true rfl, Nat.le_of_ble_eq_true rfl⟩ (fun x_137 f_138 H locs hw hP hD hS => ?_)
                obtain ⟨rfl, bx_137⟩ := hw
                refine lv_if_eq (tgt := 102) hx hb dX12_canQuarrel_85 (by decide) (fun c_140 => ?_) (fun c_140 => ?_)
                · skip
                  rw [← Int32.toInt_inj, ti_0] at c_140
                  refine lv_iconst (v := 0) hx hb dX12_canQuarrel_102 (by decide) ?_
                  exact W.zret (v := 0) (ty := .boolean) hx hb hr rfl (fun t ht hW => ⟨⟨0, f, rfl, ⟨rfl, (by decide)⟩, by rw [ht]; exact hP, va_K.moved hW.alike hK, pl_in hD⟩, hS.F ht⟩) hS.2.2 dX12_canQuarrel_103
                · skip
                  rw [← Int32.toInt_inj, ti_0] at c_140
                  refine lv_aload_n hx hb dX12_canQuarrel_88 rfl (lv_at hl 1 rfl) ?_
                  refine lv_iload_n hx hb dX12_canQuarrel_89 rfl (lv_at hl 2 rfl) ?_
                  refine lv_iconst (v := 2) hx hb dX12_canQuarrel_90 (by decide) ?_
                  refine tk_ViP (As := [.int p1, .int 2]) (rest := []) (n := 2) hx hb hml hown hU hN hZ (s_X12_ofRule_k12_c2_2 l (dC, dI) cI cL cZ cR cG cH Z kd L f hG o0 mo0 ko0 p1 (by constructor <;> omega)) wd_894 wd_895 wd_896 wd_5 wd_897 (by decide +kernel) ⟨Nat.le_of_ble_eq_true rfl, Nat.le_of_ble_eq_true rfl⟩ hK hP hD hS mo0 hfo_1 12 rfl rfl rfl hl.1 rfl (Nat.le_of_ble_eq_true rfl) dX12_canQuarrel_91 ⟨Nat.le_of_ble_eq_true rfl, Nat.le_of_ble_eq_true rfl⟩ (fun x_141 f_142 H locs hw hP hD hS => ?_)
                  obtain ⟨rfl, bx_141⟩ := hw
                  refine lv_iconst (v := 3) hx hb dX12_canQuarrel_94 (by decide) ?_
                  refine lv_icmp_ne (tgt := 102) hx hb dX12_canQuarrel_95 (by decide) (fun c_144 => ?_) (fun c_144 => ?_)
                  · skip
                    rw [← Int32.toInt_inj, ti_3] at c_144
                    refine lv_iconst (v := 0) hx hb dX12_canQuarrel_102 (by decide) ?_
                    exact W.zret (v := 0) (ty := .boolean) hx hb hr rfl (fun t ht hW => ⟨⟨0, f, rfl, ⟨rfl, (by decide)⟩, by rw [ht]; exact hP, va_K.moved hW.alike hK, pl_in hD⟩, hS.F ht⟩) hS.2.2 dX12_canQuarrel_103
                  · skip
                    rw [← Int32.toInt_inj, ti_3] at c_144
                    refine lv_iconst (v := 1) hx hb dX12_canQuarrel_98 (by decide) ?_
                    refine lv_goto (tgt := 103) hx hb dX12_canQuarrel_99 (by decide) ?_
                    exact W.zret (v := 1) (ty := .boolean) hx hb hr rfl (fun t ht hW => ⟨⟨1, f, rfl, ⟨rfl, (by decide)⟩, by rw [ht]; exact hP, va_K.moved hW.alike hK, pl_in hD⟩, hS.F ht⟩) hS.2.2 dX12_canQuarrel_103
              · skip
                rw [← Int32.toInt_inj, ti_0] at c_136
                refine lv_aload_n hx hb dX12_canQuarrel_70 rfl (lv_at hl 1 rfl) ?_
                refine lv_iload_n hx hb dX12_canQuarrel_71 rfl (lv_at hl 3 rfl) ?_
                refine lv_iconst (v := 2) hx hb dX12_canQuarrel_72 (by decide) ?_
                refine tk_ViP (As := [.int p2, .int 2]) (rest := []) (n := 2) hx hb hml hown hU hN hZ (s_X12_ofRule_k12_c2_2 l (dC, dI) cI cL cZ cR cG cH Z kd L f hG o0 mo0 ko0 p2 (by constructor <;> omega)) wd_894 wd_895 wd_896 wd_5 wd_897 (by decide +kernel) ⟨Nat.le_of_ble_eq_true rfl, Nat.le_of_ble_eq_true rfl⟩ hK hP hD hS mo0 hfo_1 12 rfl rfl rfl hl.1 rfl (Nat.le_of_ble_eq_true rfl) dX12_canQuarrel_73 ⟨Nat.le_of_ble_eq_true rfl, Nat.le_of_ble_eq_true rfl⟩ (fun x_145 f_146 H locs hw hP hD hS => ?_)
                obtain ⟨rfl, bx_145⟩ := hw
                refine lv_iconst (v := 3) hx hb dX12_canQuarrel_76 (by decide) ?_
                refine lv_icmp_eq (tgt := 98) hx hb dX12_canQuarrel_77 (by decide) (fun c_148 => ?_) (fun c_148 => ?_)
                · skip
                  rw [← Int32.toInt_inj, ti_3] at c_148
                  refine lv_iconst (v := 1) hx hb dX12_canQuarrel_98 (by decide) ?_
                  refine lv_goto (tgt := 103) hx hb dX12_canQuarrel_99 (by decide) ?_
                  exact W.zret (v := 1) (ty := .boolean) hx hb hr rfl (fun t ht hW => ⟨⟨1, f, rfl, ⟨rfl, (by decide)⟩, by rw [ht]; exact hP, va_K.moved hW.alike hK, pl_in hD⟩, hS.F ht⟩) hS.2.2 dX12_canQuarrel_103
                · skip
                  rw [← Int32.toInt_inj, ti_3] at c_148
                  refine lv_aload_n hx hb dX12_canQuarrel_80 rfl (lv_at hl 1 rfl) ?_
                  refine lv_iload_n hx hb dX12_canQuarrel_81 rfl (lv_at hl 3 rfl) ?_
                  refine tk_ViP (As := [.int p2]) (rest := []) (n := 1) hx hb hml hown hU hN hZ (s_X12_never_k12 l (dC, dI) cI cL cZ cR cG cH Z kd L f hG o0 mo0 ko0 p2 (by constructor <;> omega)) wd_1297 wd_1298 wd_1299 wd_5 wd_1300 (by decide +kernel) ⟨Nat.le_of_ble_eq_true rfl, Nat.le_of_ble_eq_true rfl⟩ hK hP hD hS mo0 hfo_1 12 rfl rfl rfl hl.1 rfl (Nat.le_of_ble_eq_true rfl) dX12_canQuarrel_82 ⟨Nat.le_of_ble_eq_true rfl, Nat.le_of_ble_eq_true rfl⟩ (fun x_149 f_150 H locs hw hP hD hS => ?_)
                  obtain ⟨rfl, bx_149⟩ := hw
                  refine lv_if_eq (tgt := 102) hx hb dX12_canQuarrel_85 (by decide) (fun c_152 => ?_) (fun c_152 => ?_)
                  · skip
                    rw [← Int32.toInt_inj, ti_0] at c_152
                    refine lv_iconst (v := 0) hx hb dX12_canQuarrel_102 (by decide) ?_
                    exact W.zret (v := 0) (ty := .boolean) hx hb hr rfl (fun t ht hW => ⟨⟨0, f, rfl, ⟨rfl, (by decide)⟩, by rw [ht]; exact hP, va_K.moved hW.alike hK, pl_in hD⟩, hS.F ht⟩) hS.2.2 dX12_canQuarrel_103
                  · skip
                    rw [← Int32.toInt_inj, ti_0] at c_152
                    refine lv_aload_n hx hb dX12_canQuarrel_88 rfl (lv_at hl 1 rfl) ?_
                    refine lv_iload_n hx hb dX12_canQuarrel_89 rfl (lv_at hl 2 rfl) ?_
                    refine lv_iconst (v := 2) hx hb dX12_canQuarrel_90 (by decide) ?_
                    refine tk_ViP (As := [.int p1, .int 2]) (rest := []) (n := 2) hx hb hml hown hU hN hZ (s_X12_ofRule_k12_c2_2 l (dC, dI) cI cL cZ cR cG cH Z kd L f hG o0 mo0 ko0 p1 (by constructor <;> omega)) wd_894 wd_895 wd_896 wd_5 wd_897 (by decide +kernel) ⟨Nat.le_of_ble_eq_true rfl, Nat.le_of_ble_eq_true rfl⟩ hK hP hD hS mo0 hfo_1 12 rfl rfl rfl hl.1 rfl (Nat.le_of_ble_eq_true rfl) dX12_canQuarrel_91 ⟨Nat.le_of_ble_eq_true rfl, Nat.le_of_ble_eq_true rfl⟩ (fun x_153 f_154 H locs hw hP hD hS => ?_)
                    obtain ⟨rfl, bx_153⟩ := hw
                    refine lv_iconst (v := 3) hx hb dX12_canQuarrel_94 (by decide) ?_
                    refine lv_icmp_ne (tgt := 102) hx hb dX12_canQuarrel_95 (by decide) (fun c_156 => ?_) (fun c_156 => ?_)
                    · skip
                      rw [← Int32.toInt_inj, ti_3] at c_156
                      refine lv_iconst (v := 0) hx hb dX12_canQuarrel_102 (by decide) ?_
                      exact W.zret (v := 0) (ty := .boolean) hx hb hr rfl (fun t ht hW => ⟨⟨0, f, rfl, ⟨rfl, (by decide)⟩, by rw [ht]; exact hP, va_K.moved hW.alike hK, pl_in hD⟩, hS.F ht⟩) hS.2.2 dX12_canQuarrel_103
                    · skip
                      rw [← Int32.toInt_inj, ti_3] at c_156
                      refine lv_iconst (v := 1) hx hb dX12_canQuarrel_98 (by decide) ?_
                      refine lv_goto (tgt := 103) hx hb dX12_canQuarrel_99 (by decide) ?_
                      exact W.zret (v := 1) (ty := .boolean) hx hb hr rfl (fun t ht hW => ⟨⟨1, f, rfl, ⟨rfl, (by decide)⟩, by rw [ht]; exact hP, va_K.moved hW.alike hK, pl_in hD⟩, hS.F ht⟩) hS.2.2 dX12_canQuarrel_103
    refine lv_icmp_ne (tgt := 36) hx hb dX12_canQuarrel_29 (by decide) (fun c_157 => ?_) (fun c_157 => ?_)
    · skip
      rw [← Int32.toInt_inj] at c_157
      refine lv_iconst (v := 0) hx hb dX12_canQuarrel_36 (by decide) ?_
      exact hcut_72 0 (by decide) ls (lv_sub hl [0, 1, 2] rfl)
    · skip
      rw [← Int32.toInt_inj] at c_157
      refine lv_iconst (v := 1) hx hb dX12_canQuarrel_32 (by decide) ?_
      refine lv_goto (tgt := 37) hx hb dX12_canQuarrel_33 (by decide) ?_
      exact hcut_72 1 (by decide) ls (lv_sub hl [0, 1, 2] rfl)
  · skip
    rw [← Int32.toInt_inj] at c_64
    refine lv_iconst (v := 0) hx hb dX12_canQuarrel_15 (by decide) ?_
    exact W.zret (v := 0) (ty := .boolean) hx hb hr rfl (fun t ht hW => ⟨⟨0, f, rfl, ⟨rfl, (by decide)⟩, by rw [ht]; exact hP, va_K.moved hW.alike hK, pl_in hD⟩, hS.F ht⟩) hS.2.2 dX12_canQuarrel_16
set_option maxHeartbeats 8000000 in
set_option maxRecDepth 100000 in
theorem s_X12_isUsed_k12 (l : Launch) (D : va_G) (cI cL cZ cR cG cH : ClassId) (Z : zT) (kd : Nat → Nat) (L : List Nat) (f : Nat → va_E) (hG : GI (okc cI cL cZ cR cG cH L kd) kd L f) (o0 : Nat) (mo0 : o0 ∈ L) (ko0 : kd o0 = 12) (p1 : Int32) : mPI l D cI cL cZ cR cG cH Z yX12_isUsed cX12_isUsed 2 (some .boolean) 2 43 [.ref o0, .int p1] L f (fun (r : Int32) (f9 : Nat → va_E) => f = f9 ∧ (0 ≤ r.toInt ∧ r.toInt ≤ 1) ∧ (r.toInt = 0 ∨ (0 ≤ p1.toInt ∧ p1.toInt ≤ 7))) := by
  obtain ⟨dC, dI⟩ := D
  refine Met.ofW (cc := cX12_isUsed) (maxL := 2) (ret := (some .boolean)) (by decide) rfl ?_
  intro p e s m args below meth c s₁ B hml hv
  obtain ⟨rfl, hP, hK, hD0, hN, hZ⟩ := hv
  have hx := B.exec
  have hb := B.bytes
  have hr := B.returns
  have hU : ∀ w ∈ wsU, w.before _ s = true := fun w h => atoms_spec (ws := wU yX12_isUsed cX12_isUsed 2 (some .boolean)) B.pre w (List.mem_cons_of_mem _ h)
  have hown : s.vm.findClass RX12 = some m.cls := findClass_of_methodNamed B.named
  have hlocks := B.notSynchronized
  have hD := pl_in hD0
  have hS : va_S (fun q => q ∈ L) s.heap s.heap [] := va_S.rf
  have hl := lv_entry ([.ref o0, .int p1]) (n := 2) (Nat.le_of_ble_eq_true rfl)
  rw [lg_entry_eq]
  generalize (lg_sl ([.ref o0, .int p1]) ++ List.replicate (2 - (lg_sl ([.ref o0, .int p1])).length) Slot.unset).toArray = ls at hl ⊢
  have hl : lv_has ls 2 [(0, .ref o0), (1, .int p1)] := hl
  have bp1 : ((-2147483648) ≤ p1.toInt ∧ p1.toInt ≤ 2147483647) := ⟨i32_lo _, i32_hi _⟩
  refine lv_aload_n hx hb dX12_isUsed_0 rfl (lv_at hl 0 rfl) ?_
  refine lv_iload_n hx hb dX12_isUsed_1 rfl (lv_at hl 1 rfl) ?_
  obtain ⟨a_2, a_3, a_4, v_5, a_6, v_7, v_8, v_9, v_10, v_11, v_12, v_13, v_14, v_15, v_16, a_17, a_18, a_19, a_20, a_21, a_22, a_23, a_24, v_25, v_26, v_27, v_28, v_29, a_30, v_31, a_32, a_33, v_34, v_35, a_36, v_37, a_38, a_39, v_40, v_41, a_42, a_43, a_44, v_45, a_46, a_47, a_48, a_49, a_50, a_51, a_52, a_53, a_54, v_55, v_56, a_57, hfo_1, ⟨ma_2, ka_2⟩, ⟨ma_3, ka_3⟩, ⟨ma_4, ka_4⟩, bv_5, ⟨ma_6, ka_6⟩, bv_7, bv_8, bv_13, bv_14, bv_15, ⟨ma_17, ka_17⟩, ⟨ma_18, ka_18⟩, ⟨ma_19, ka_19⟩, ⟨ma_20, ka_20⟩, ⟨ma_21, ka_21⟩, ⟨ma_22, ka_22⟩, ⟨ma_23, ka_23⟩, ⟨ma_24, ka_24⟩, bv_25, bv_27, bv_29, ⟨ma_30, ka_30⟩, bv_31, ⟨ma_32, ka_32⟩, ⟨ma_33, ka_33⟩, bv_34, ⟨ma_36, ka_36⟩, bv_37, ⟨ma_38, ka_38⟩, ⟨ma_39, ka_39⟩, bv_40, ⟨ma_42, ka_42⟩, ⟨ma_43, ka_43⟩, ⟨ma_44, ka_44⟩, bv_45, ⟨ma_46, ka_46⟩, ⟨ma_47, ka_47⟩, ⟨ma_48, ka_48⟩, ⟨ma_49, ka_49⟩, ⟨ma_50, ka_50⟩, ⟨ma_51, ka_51⟩, ⟨ma_52, ka_52⟩, ⟨ma_53, ka_53⟩, ⟨ma_54, ka_54⟩, bv_55, ⟨ma_57, ka_57⟩⟩ := un_12 (hG _ mo0) ko0
  have bv_9 : ((-2147483648) ≤ v_9.toInt ∧ v_9.toInt ≤ 2147483647) := ⟨i32_lo _, i32_hi _⟩
  have bv_10 : ((-2147483648) ≤ v_10.toInt ∧ v_10.toInt ≤ 2147483647) := ⟨i32_lo _, i32_hi _⟩
  have bv_11 : ((-2147483648) ≤ v_11.toInt ∧ v_11.toInt ≤ 2147483647) := ⟨i32_lo _, i32_hi _⟩
  have bv_12 : ((-2147483648) ≤ v_12.toInt ∧ v_12.toInt ≤ 2147483647) := ⟨i32_lo _, i32_hi _⟩
  have bv_16 : ((-2147483648) ≤ v_16.toInt ∧ v_16.toInt ≤ 2147483647) := ⟨i32_lo _, i32_hi _⟩
  have bv_26 : ((-2147483648) ≤ v_26.toInt ∧ v_26.toInt ≤ 2147483647) := ⟨i32_lo _, i32_hi _⟩
  have bv_28 : ((-2147483648) ≤ v_28.toInt ∧ v_28.toInt ≤ 2147483647) := ⟨i32_lo _, i32_hi _⟩
  have bv_35 : ((-2147483648) ≤ v_35.toInt ∧ v_35.toInt ≤ 2147483647) := ⟨i32_lo _, i32_hi _⟩
  have bv_41 : ((-2147483648) ≤ v_41.toInt ∧ v_41.toInt ≤ 2147483647) := ⟨i32_lo _, i32_hi _⟩
  have bv_56 : ((-2147483648) ≤ v_56.toInt ∧ v_56.toInt ≤ 2147483647) := ⟨i32_lo _, i32_hi _⟩
  refine tk_ViP (As := [.int p1]) (rest := []) (n := 1) hx hb hml hown hU hN hZ (s_X12_isRule_k12 l (dC, dI) cI cL cZ cR cG cH Z kd L f hG o0 mo0 ko0 p1) wd_1289 wd_1290 wd_1291 wd_5 wd_1292 (by decide +kernel) ⟨Nat.le_of_ble_eq_true rfl, Nat.le_of_ble_eq_true rfl⟩ hK hP hD hS mo0 hfo_1 12 rfl rfl rfl hl.1 rfl (Nat.le_of_ble_eq_true rfl) dX12_isUsed_2 ⟨Nat.le_of_ble_eq_true rfl, Nat.le_of_ble_eq_true rfl⟩ (fun x_58 f_59 H locs hw hP hD hS => ?_)
  obtain ⟨rfl, bx_58, relx_58⟩ := hw
  refine lv_if_eq (tgt := 27) hx hb dX12_isUsed_5 (by decide) (fun c_61 => ?_) (fun c_61 => ?_)
  · skip
    rw [← Int32.toInt_inj, ti_0] at c_61
    refine lv_iconst (v := 0) hx hb dX12_isUsed_27 (by decide) ?_
    exact W.zret (v := 0) (ty := .boolean) hx hb hr rfl (fun t ht hW => ⟨⟨0, f, rfl, ⟨rfl, (by decide), (by (try rw [ti_0]) <;> omega)⟩, by rw [ht]; exact hP, va_K.moved hW.alike hK, pl_in hD⟩, hS.F ht⟩) hS.2.2 dX12_isUsed_28
  · skip
    rw [← Int32.toInt_inj, ti_0] at c_61
    refine lv_aload_n hx hb dX12_isUsed_8 rfl (lv_at hl 0 rfl) ?_
    refine tk_getP (D := (dC, dI)) (ci := 12) (v := .ref a_2) (C := RX12) (T := TX12) (N := 56) hx hb hU inlX12 hown hK hP mo0 hfo_1 rfl 0 (by decide) (hU _ wd_169) (fun _ h9 => h9) rfl dX12_isUsed_9 ?_
    refine lv_bipush (v := 40) hx hb dX12_isUsed_12 (by decide) ?_
    obtain ⟨g_63, hfo_62, hbg_63⟩ := un_575 (hG _ ma_2) ka_2
    refine tk_ildP hx hb hK hP 0 ma_2 hfo_62 rfl (vp_in_nI (n := 40) (by decide) (by decide)) dX12_isUsed_14 ?_
    refine lv_topi (fun x_64 ex_64 => ?_)
    have bx_64 : (0 ≤ x_64.toInt ∧ x_64.toInt ≤ 255) := by rw [ex_64]; exact hbg_63.2.2.2.2.2.2.1 _ (by decide) (by decide) (by decide)
    refine lv_iload_n hx hb dX12_isUsed_15 rfl (lv_at hl 1 rfl) ?_
    refine lv_ishr hx hb dX12_isUsed_16 ?_
    refine lv_topi (fun x_65 ex_65 => ?_)
    have bx_65 : ((-2147483648) ≤ x_65.toInt ∧ x_65.toInt ≤ 2147483647) := ⟨i32_lo _, i32_hi _⟩
    refine lv_iconst (v := 1) hx hb dX12_isUsed_17 (by decide) ?_
    refine lv_iand hx hb dX12_isUsed_18 ?_
    refine lv_topi (fun x_66 ex_66 => ?_)
    have bx_66 : (0 ≤ x_66.toInt ∧ x_66.toInt ≤ 1) := by rw [ex_66]; have h8 := an_C x_65 (m := 1) (by decide); rw [ti_1] at h8; exact h8
    refine lv_iconst (v := 1) hx hb dX12_isUsed_19 (by decide) ?_
    refine lv_icmp_ne (tgt := 27) hx hb dX12_isUsed_20 (by decide) (fun c_67 => ?_) (fun c_67 => ?_)
    · skip
      rw [← Int32.toInt_inj, ti_1] at c_67
      refine lv_iconst (v := 0) hx hb dX12_isUsed_27 (by decide) ?_
      exact W.zret (v := 0) (ty := .boolean) hx hb hr rfl (fun t ht hW => ⟨⟨0, f, rfl, ⟨rfl, (by decide), (by (try rw [ti_0]) <;> omega)⟩, by rw [ht]; exact hP, va_K.moved hW.alike hK, pl_in hD⟩, hS.F ht⟩) hS.2.2 dX12_isUsed_28
    · skip
      rw [← Int32.toInt_inj, ti_1] at c_67
      refine lv_iconst (v := 1) hx hb dX12_isUsed_23 (by decide) ?_
      refine lv_goto (tgt := 28) hx hb dX12_isUsed_24 (by decide) ?_
      exact W.zret (v := 1) (ty := .boolean) hx hb hr rfl (fun t ht hW => ⟨⟨1, f, rfl, ⟨rfl, (by decide), (by (try rw [ti_1]) <;> omega)⟩, by rw [ht]; exact hP, va_K.moved hW.alike hK, pl_in hD⟩, hS.F ht⟩) hS.2.2 dX12_isUsed_28
