set_option maxHeartbeats 8000000 in
set_option maxRecDepth 100000 in
theorem s_X12_someHolds_k12_a598 (l : Launch) (D : va_G) (cI cL cZ cR cG cH : ClassId) (Z : zT) (kd : Nat → Nat) (L : List Nat) (f : Nat → va_E) (hG : GI (okc cI cL cZ cR cG cH L kd) kd L f) (o0 : Nat) (mo0 : o0 ∈ L) (ko0 : kd o0 = 12) (p1 : Int32) (bp1 : (0 ≤ p1.toInt ∧ p1.toInt ≤ 7)) (p2 : Int32) (bp2 : (0 ≤ p2.toInt ∧ p2.toInt ≤ 15)) (o3 : Nat) (mo3 : o3 ∈ L) (ko3 : kd o3 = 598) (p4 : Int32) (bp4 : (0 ≤ p4.toInt ∧ p4.toInt ≤ 16)) : mPI l D cI cL cZ cR cG cH Z yX12_someHolds cX12_someHolds 6 (some .boolean) 4 103 [.ref o0, .int p1, .int p2, .ref o3, .int p4] L f (fun (r : Int32) (f9 : Nat → va_E) => f = f9 ∧ (0 ≤ r.toInt ∧ r.toInt ≤ 1)) := by
  obtain ⟨dC, dI⟩ := D
  refine Met.ofW (cc := cX12_someHolds) (maxL := 6) (ret := (some .boolean)) (by decide) rfl ?_
  intro p e s m args below meth c s₁ B hml hv
  obtain ⟨rfl, hP, hK, hD0, hN, hZ⟩ := hv
  have hx := B.exec
  have hb := B.bytes
  have hr := B.returns
  have hU : ∀ w ∈ wsU, w.before _ s = true := fun w h => atoms_spec (ws := wU yX12_someHolds cX12_someHolds 6 (some .boolean)) B.pre w (List.mem_cons_of_mem _ h)
  have hown : s.vm.findClass RX12 = some m.cls := findClass_of_methodNamed B.named
  have hlocks := B.notSynchronized
  have hD := pl_in hD0
  have hS : va_S (fun q => q ∈ L) s.heap s.heap [] := va_S.rf
  have hl := lv_entry ([.ref o0, .int p1, .int p2, .ref o3, .int p4]) (n := 6) (Nat.le_of_ble_eq_true rfl)
  rw [lg_entry_eq]
  generalize (lg_sl ([.ref o0, .int p1, .int p2, .ref o3, .int p4]) ++ List.replicate (6 - (lg_sl ([.ref o0, .int p1, .int p2, .ref o3, .int p4])).length) Slot.unset).toArray = ls at hl ⊢
  have hl : lv_has ls 6 [(0, .ref o0), (1, .int p1), (2, .int p2), (3, .ref o3), (4, .int p4)] := hl
  refine lv_iconst (v := 0) hx hb dX12_someHolds_0 (by decide) ?_
  refine lv_istore (lv' := [(5, .int 0), (0, .ref o0), (1, .int p1), (2, .int p2), (3, .ref o3), (4, .int p4)]) hx hb dX12_someHolds_1 hl (by decide) rfl (fun ls hl => ?_)
  have hloop_13 : ∀ (n : Nat), ∀ (y_14 : Int32), (0 ≤ y_14.toInt ∧ y_14.toInt ≤ 3) → ∀ (H : Heap) (locs : List Loc), va_P (dC, dI) vwCl (va_pl L f) H → va_S (fun q => q ∈ L) s.heap H locs → 3 - y_14.toInt < (n : Int) → ∀ (ls : Array Slot), lv_has ls 6 [(5, .int y_14), (0, .ref o0), (1, .int p1), (2, .int p2), (3, .ref o3), (4, .int p4)] → W p l e (headSpec (wU yX12_someHolds cX12_someHolds 6 (some .boolean)) { frames := 4, cells := 0, slots := 0, locals := 103 }).room s m [.ref o0, .int p1, .int p2, .ref o3, .int p4].toArray below meth c H locs 0 0 (MQ below (va_Qi (fun (r : Int32) (f9 : Nat → va_E) => f = f9 ∧ (0 ≤ r.toInt ∧ r.toInt ≤ 1)) (qP (dC, dI) cI cL cZ cR cG cH L) (fun q => q ∈ L)) [.ref o0, .int p1, .int p2, .ref o3, .int p4].toArray s 0 0 (fun q => q ∈ L)) (F0 m 3 ls []) := by
    intro n
    induction n with
    | zero => intro y_14 by_14 H locs hP hS hmuhloop_13 ls hl; exfalso; omega
    | succ n ih_hloop_13 =>
      intro y_14 by_14 H locs hP hS hmuhloop_13 ls hl
      refine lv_iload hx hb dX12_someHolds_3 (lv_at hl 0 rfl) ?_
      refine lv_aload_n hx hb dX12_someHolds_5 rfl (lv_at hl 1 rfl) ?_
      refine lv_iload_n hx hb dX12_someHolds_6 rfl (lv_at hl 2 rfl) ?_
      refine lv_iconst (v := 3) hx hb dX12_someHolds_7 (by decide) ?_
      obtain ⟨a_17, a_18, a_19, v_20, a_21, v_22, v_23, v_24, v_25, v_26, v_27, v_28, v_29, v_30, v_31, a_32, a_33, a_34, a_35, a_36, a_37, a_38, a_39, v_40, v_41, v_42, v_43, v_44, a_45, v_46, a_47, a_48, v_49, v_50, a_51, v_52, a_53, a_54, v_55, v_56, a_57, a_58, a_59, v_60, a_61, a_62, a_63, a_64, a_65, a_66, a_67, a_68, a_69, v_70, v_71, a_72, hfo_16, ⟨ma_17, ka_17⟩, ⟨ma_18, ka_18⟩, ⟨ma_19, ka_19⟩, bv_20, ⟨ma_21, ka_21⟩, bv_22, bv_23, bv_28, bv_29, bv_30, ⟨ma_32, ka_32⟩, ⟨ma_33, ka_33⟩, ⟨ma_34, ka_34⟩, ⟨ma_35, ka_35⟩, ⟨ma_36, ka_36⟩, ⟨ma_37, ka_37⟩, ⟨ma_38, ka_38⟩, ⟨ma_39, ka_39⟩, bv_40, bv_42, bv_44, ⟨ma_45, ka_45⟩, bv_46, ⟨ma_47, ka_47⟩, ⟨ma_48, ka_48⟩, bv_49, ⟨ma_51, ka_51⟩, bv_52, ⟨ma_53, ka_53⟩, ⟨ma_54, ka_54⟩, bv_55, ⟨ma_57, ka_57⟩, ⟨ma_58, ka_58⟩, ⟨ma_59, ka_59⟩, bv_60, ⟨ma_61, ka_61⟩, ⟨ma_62, ka_62⟩, ⟨ma_63, ka_63⟩, ⟨ma_64, ka_64⟩, ⟨ma_65, ka_65⟩, ⟨ma_66, ka_66⟩, ⟨ma_67, ka_67⟩, ⟨ma_68, ka_68⟩, ⟨ma_69, ka_69⟩, bv_70, ⟨ma_72, ka_72⟩⟩ := un_12 (hG _ mo0) ko0
      have bv_24 : ((-2147483648) ≤ v_24.toInt ∧ v_24.toInt ≤ 2147483647) := ⟨i32_lo _, i32_hi _⟩
      have bv_25 : ((-2147483648) ≤ v_25.toInt ∧ v_25.toInt ≤ 2147483647) := ⟨i32_lo _, i32_hi _⟩
      have bv_26 : ((-2147483648) ≤ v_26.toInt ∧ v_26.toInt ≤ 2147483647) := ⟨i32_lo _, i32_hi _⟩
      have bv_27 : ((-2147483648) ≤ v_27.toInt ∧ v_27.toInt ≤ 2147483647) := ⟨i32_lo _, i32_hi _⟩
      have bv_31 : ((-2147483648) ≤ v_31.toInt ∧ v_31.toInt ≤ 2147483647) := ⟨i32_lo _, i32_hi _⟩
      have bv_41 : ((-2147483648) ≤ v_41.toInt ∧ v_41.toInt ≤ 2147483647) := ⟨i32_lo _, i32_hi _⟩
      have bv_43 : ((-2147483648) ≤ v_43.toInt ∧ v_43.toInt ≤ 2147483647) := ⟨i32_lo _, i32_hi _⟩
      have bv_50 : ((-2147483648) ≤ v_50.toInt ∧ v_50.toInt ≤ 2147483647) := ⟨i32_lo _, i32_hi _⟩
      have bv_56 : ((-2147483648) ≤ v_56.toInt ∧ v_56.toInt ≤ 2147483647) := ⟨i32_lo _, i32_hi _⟩
      have bv_71 : ((-2147483648) ≤ v_71.toInt ∧ v_71.toInt ≤ 2147483647) := ⟨i32_lo _, i32_hi _⟩
      refine tk_ViP (As := [.int p1, .int 3]) (rest := [.int y_14]) (n := 2) hx hb hml hown hU hN hZ (s_X12_ofRule_k12_c3_3 l (dC, dI) cI cL cZ cR cG cH Z kd L f hG o0 mo0 ko0 p1 (by constructor <;> omega)) wd_894 wd_895 wd_896 wd_5 wd_897 (by decide +kernel) ⟨Nat.le_of_ble_eq_true rfl, Nat.le_of_ble_eq_true rfl⟩ hK hP hD hS mo0 hfo_16 12 rfl rfl rfl hl.1 rfl (Nat.le_of_ble_eq_true rfl) dX12_someHolds_8 ⟨Nat.le_of_ble_eq_true rfl, Nat.le_of_ble_eq_true rfl⟩ (fun x_73 f_74 H locs hw hP hD hS => ?_)
      obtain ⟨rfl, bx_73⟩ := hw
      refine lv_icmp_ge (tgt := 39) hx hb dX12_someHolds_11 (by decide) (fun c_76 => ?_) (fun c_76 => ?_)
      · skip
        rw [Int32.le_iff_toInt_le] at c_76
        refine lv_iconst (v := 0) hx hb dX12_someHolds_39 (by decide) ?_
        exact W.zret (v := 0) (ty := .boolean) hx hb hr rfl (fun t ht hW => ⟨⟨0, f, rfl, ⟨rfl, (by decide)⟩, by rw [ht]; exact hP, va_K.moved hW.alike hK, pl_in hD⟩, hS.F ht⟩) hS.2.2 dX12_someHolds_40
      · skip
        rw [Int32.le_iff_toInt_le] at c_76
        refine lv_aload_n hx hb dX12_someHolds_14 rfl (lv_at hl 1 rfl) ?_
        refine lv_iconst (v := 3) hx hb dX12_someHolds_15 (by decide) ?_
        refine lv_iload_n hx hb dX12_someHolds_16 rfl (lv_at hl 2 rfl) ?_
        refine lv_imul hx hb dX12_someHolds_17 ?_
        refine lv_topi (fun x_77 ex_77 => ?_)
        have hx_77 : x_77.toInt = 3 * p1.toInt := by rw [ex_77, ml_I (by rw [ti_3]; omega) (by rw [ti_3]; omega), ti_3]
        have bx_77 : (0 ≤ x_77.toInt ∧ x_77.toInt ≤ 21) := by constructor <;> omega
        refine lv_iload hx hb dX12_someHolds_18 (lv_at hl 0 rfl) ?_
        refine lv_iadd hx hb dX12_someHolds_20 ?_
        refine lv_topi (fun x_78 ex_78 => ?_)
        have hx_78 : x_78.toInt = x_77.toInt + y_14.toInt := by rw [ex_78, ad_I (by omega) (by omega)]
        have bx_78 : (0 ≤ x_78.toInt ∧ x_78.toInt ≤ 23) := by constructor <;> omega
        refine lv_iload_n hx hb dX12_someHolds_21 rfl (lv_at hl 3 rfl) ?_
        refine lv_aload_n hx hb dX12_someHolds_22 rfl (lv_at hl 4 rfl) ?_
        refine lv_iload hx hb dX12_someHolds_23 (lv_at hl 5 rfl) ?_
        refine tk_ViP (As := [.int x_78, .int p2, .ref o3, .int p4]) (rest := []) (n := 4) hx hb hml hown hU hN hZ (s_X12_holds_k12_a598 l (dC, dI) cI cL cZ cR cG cH Z kd L f hG o0 mo0 ko0 x_78 (by constructor <;> omega) p2 (by constructor <;> omega) o3 mo3 ko3 p4 (by constructor <;> omega)) wd_938 wd_939 wd_940 wd_5 wd_941 (by decide +kernel) ⟨Nat.le_of_ble_eq_true rfl, Nat.le_of_ble_eq_true rfl⟩ hK hP hD hS mo0 hfo_16 12 rfl rfl rfl hl.1 rfl (Nat.le_of_ble_eq_true rfl) dX12_someHolds_25 ⟨Nat.le_of_ble_eq_true rfl, Nat.le_of_ble_eq_true rfl⟩ (fun x_79 f_80 H locs hw hP hD hS => ?_)
        obtain ⟨rfl, bx_79⟩ := hw
        refine lv_if_eq (tgt := 33) hx hb dX12_someHolds_28 (by decide) (fun c_82 => ?_) (fun c_82 => ?_)
        · skip
          rw [← Int32.toInt_inj, ti_0] at c_82
          obtain ⟨x_83, ex_83⟩ : ∃ y : Int32, y_14 + 1 = y := ⟨_, rfl⟩
          have hx_83 : x_83.toInt = y_14.toInt + 1 := by rw [← ex_83, ad_I (by rw [ti_1]; omega) (by rw [ti_1]; omega), ti_1]
          have bx_83 : (1 ≤ x_83.toInt ∧ x_83.toInt ≤ 3) := by constructor <;> omega
          refine lv_iinc (v := x_83) (lv' := [(5, .int x_83), (0, .ref o0), (1, .int p1), (2, .int p2), (3, .ref o3), (4, .int p4)]) hx hb dX12_someHolds_33 hl (k := 0) rfl ex_83 (by decide) rfl (fun ls hl => ?_)
          refine lv_goto (tgt := 3) hx hb dX12_someHolds_36 (by decide) ?_
          exact ih_hloop_13 x_83 (by constructor <;> omega) _ _ hP hS (by omega) ls (lv_sub hl [0, 1, 2, 3, 4, 5] rfl)
        · skip
          rw [← Int32.toInt_inj, ti_0] at c_82
          refine lv_iconst (v := 1) hx hb dX12_someHolds_31 (by decide) ?_
          exact W.zret (v := 1) (ty := .boolean) hx hb hr rfl (fun t ht hW => ⟨⟨1, f, rfl, ⟨rfl, (by decide)⟩, by rw [ht]; exact hP, va_K.moved hW.alike hK, pl_in hD⟩, hS.F ht⟩) hS.2.2 dX12_someHolds_32
  exact hloop_13 4 0 (by decide) _ _ hP hS (by (try rw [ti_0]) <;> omega) ls hl
set_option maxHeartbeats 8000000 in
set_option maxRecDepth 100000 in
theorem s_X12_isBroken_k12_a588 (l : Launch) (D : va_G) (cI cL cZ cR cG cH : ClassId) (Z : zT) (kd : Nat → Nat) (L : List Nat) (f : Nat → va_E) (hG : GI (okc cI cL cZ cR cG cH L kd) kd L f) (o0 : Nat) (mo0 : o0 ∈ L) (ko0 : kd o0 = 12) (p1 : Int32) (bp1 : (0 ≤ p1.toInt ∧ p1.toInt ≤ 7)) (p2 : Int32) (bp2 : (0 ≤ p2.toInt ∧ p2.toInt ≤ 19)) (o3 : Nat) (mo3 : o3 ∈ L) (ko3 : kd o3 = 588) (p4 : Int32) (bp4 : (0 ≤ p4.toInt ∧ p4.toInt ≤ 20)) : mPI l D cI cL cZ cR cG cH Z yX12_isBroken cX12_isBroken 10 (some .boolean) 5 128 [.ref o0, .int p1, .int p2, .ref o3, .int p4] L f (fun (r : Int32) (f9 : Nat → va_E) => f = f9 ∧ (0 ≤ r.toInt ∧ r.toInt ≤ 1)) := by
  obtain ⟨dC, dI⟩ := D
  refine Met.ofW (cc := cX12_isBroken) (maxL := 10) (ret := (some .boolean)) (by decide) rfl ?_
  intro p e s m args below meth c s₁ B hml hv
  obtain ⟨rfl, hP, hK, hD0, hN, hZ⟩ := hv
  have hx := B.exec
  have hb := B.bytes
  have hr := B.returns
  have hU : ∀ w ∈ wsU, w.before _ s = true := fun w h => atoms_spec (ws := wU yX12_isBroken cX12_isBroken 10 (some .boolean)) B.pre w (List.mem_cons_of_mem _ h)
  have hown : s.vm.findClass RX12 = some m.cls := findClass_of_methodNamed B.named
  have hlocks := B.notSynchronized
  have hD := pl_in hD0
  have hS : va_S (fun q => q ∈ L) s.heap s.heap [] := va_S.rf
  have hl := lv_entry ([.ref o0, .int p1, .int p2, .ref o3, .int p4]) (n := 10) (Nat.le_of_ble_eq_true rfl)
  rw [lg_entry_eq]
  generalize (lg_sl ([.ref o0, .int p1, .int p2, .ref o3, .int p4]) ++ List.replicate (10 - (lg_sl ([.ref o0, .int p1, .int p2, .ref o3, .int p4])).length) Slot.unset).toArray = ls at hl ⊢
  have hl : lv_has ls 10 [(0, .ref o0), (1, .int p1), (2, .int p2), (3, .ref o3), (4, .int p4)] := hl
  refine lv_aload_n hx hb dX12_isBroken_0 rfl (lv_at hl 3 rfl) ?_
  refine lv_iload_n hx hb dX12_isBroken_1 rfl (lv_at hl 2 rfl) ?_
  obtain ⟨g_2, hfo_1, hbg_2⟩ := un_588 (hG _ mo3) ko3
  refine tk_ildP hx hb hK hP 0 mo3 hfo_1 rfl (vp_in_iff.mpr (by constructor <;> omega)) dX12_isBroken_2 ?_
  refine lv_topi (fun x_3 ex_3 => ?_)
  have bx_3 : ((-2147483648) ≤ x_3.toInt ∧ x_3.toInt ≤ 2147483647) := ⟨i32_lo _, i32_hi _⟩
  refine lv_bipush (v := 9) hx hb dX12_isBroken_3 (by decide) ?_
  refine lv_idiv hx hb dX12_isBroken_5 (by decide) ?_
  refine lv_topi (fun x_4 ex_4 => ?_)
  have bx_4 : ((-2147483648) ≤ x_4.toInt ∧ x_4.toInt ≤ 2147483647) := ⟨i32_lo _, i32_hi _⟩
  refine lv_istore (lv' := [(5, .int x_4), (0, .ref o0), (1, .int p1), (2, .int p2), (3, .ref o3), (4, .int p4)]) hx hb dX12_isBroken_6 hl (by decide) rfl (fun ls hl => ?_)
  refine lv_aload_n hx hb dX12_isBroken_8 rfl (lv_at hl 4 rfl) ?_
  refine lv_iload_n hx hb dX12_isBroken_9 rfl (lv_at hl 3 rfl) ?_
  refine tk_ildP hx hb hK hP 0 mo3 hfo_1 rfl (vp_in_iff.mpr (by constructor <;> omega)) dX12_isBroken_10 ?_
  refine tk_topi (y := x_3) ex_3.symm ?_
  refine lv_bipush (v := 9) hx hb dX12_isBroken_11 (by decide) ?_
  refine lv_irem hx hb dX12_isBroken_13 (by decide) ?_
  refine lv_topi (fun x_5 ex_5 => ?_)
  have bx_5 : ((-2147483648) ≤ x_5.toInt ∧ x_5.toInt ≤ 2147483647) := ⟨i32_lo _, i32_hi _⟩
  refine lv_istore (lv' := [(6, .int x_5), (5, .int x_4), (0, .ref o0), (1, .int p1), (2, .int p2), (3, .ref o3), (4, .int p4)]) hx hb dX12_isBroken_14 hl (by decide) rfl (fun ls hl => ?_)
  refine lv_aload_n hx hb dX12_isBroken_16 rfl (lv_at hl 2 rfl) ?_
  refine lv_iload_n hx hb dX12_isBroken_17 rfl (lv_at hl 3 rfl) ?_
  refine lv_iconst (v := 2) hx hb dX12_isBroken_18 (by decide) ?_
  obtain ⟨a_7, a_8, a_9, v_10, a_11, v_12, v_13, v_14, v_15, v_16, v_17, v_18, v_19, v_20, v_21, a_22, a_23, a_24, a_25, a_26, a_27, a_28, a_29, v_30, v_31, v_32, v_33, v_34, a_35, v_36, a_37, a_38, v_39, v_40, a_41, v_42, a_43, a_44, v_45, v_46, a_47, a_48, a_49, v_50, a_51, a_52, a_53, a_54, a_55, a_56, a_57, a_58, a_59, v_60, v_61, a_62, hfo_6, ⟨ma_7, ka_7⟩, ⟨ma_8, ka_8⟩, ⟨ma_9, ka_9⟩, bv_10, ⟨ma_11, ka_11⟩, bv_12, bv_13, bv_18, bv_19, bv_20, ⟨ma_22, ka_22⟩, ⟨ma_23, ka_23⟩, ⟨ma_24, ka_24⟩, ⟨ma_25, ka_25⟩, ⟨ma_26, ka_26⟩, ⟨ma_27, ka_27⟩, ⟨ma_28, ka_28⟩, ⟨ma_29, ka_29⟩, bv_30, bv_32, bv_34, ⟨ma_35, ka_35⟩, bv_36, ⟨ma_37, ka_37⟩, ⟨ma_38, ka_38⟩, bv_39, ⟨ma_41, ka_41⟩, bv_42, ⟨ma_43, ka_43⟩, ⟨ma_44, ka_44⟩, bv_45, ⟨ma_47, ka_47⟩, ⟨ma_48, ka_48⟩, ⟨ma_49, ka_49⟩, bv_50, ⟨ma_51, ka_51⟩, ⟨ma_52, ka_52⟩, ⟨ma_53, ka_53⟩, ⟨ma_54, ka_54⟩, ⟨ma_55, ka_55⟩, ⟨ma_56, ka_56⟩, ⟨ma_57, ka_57⟩, ⟨ma_58, ka_58⟩, ⟨ma_59, ka_59⟩, bv_60, ⟨ma_62, ka_62⟩⟩ := un_12 (hG _ mo0) ko0
  have bv_14 : ((-2147483648) ≤ v_14.toInt ∧ v_14.toInt ≤ 2147483647) := ⟨i32_lo _, i32_hi _⟩
  have bv_15 : ((-2147483648) ≤ v_15.toInt ∧ v_15.toInt ≤ 2147483647) := ⟨i32_lo _, i32_hi _⟩
  have bv_16 : ((-2147483648) ≤ v_16.toInt ∧ v_16.toInt ≤ 2147483647) := ⟨i32_lo _, i32_hi _⟩
  have bv_17 : ((-2147483648) ≤ v_17.toInt ∧ v_17.toInt ≤ 2147483647) := ⟨i32_lo _, i32_hi _⟩
  have bv_21 : ((-2147483648) ≤ v_21.toInt ∧ v_21.toInt ≤ 2147483647) := ⟨i32_lo _, i32_hi _⟩
  have bv_31 : ((-2147483648) ≤ v_31.toInt ∧ v_31.toInt ≤ 2147483647) := ⟨i32_lo _, i32_hi _⟩
  have bv_33 : ((-2147483648) ≤ v_33.toInt ∧ v_33.toInt ≤ 2147483647) := ⟨i32_lo _, i32_hi _⟩
  have bv_40 : ((-2147483648) ≤ v_40.toInt ∧ v_40.toInt ≤ 2147483647) := ⟨i32_lo _, i32_hi _⟩
  have bv_46 : ((-2147483648) ≤ v_46.toInt ∧ v_46.toInt ≤ 2147483647) := ⟨i32_lo _, i32_hi _⟩
  have bv_61 : ((-2147483648) ≤ v_61.toInt ∧ v_61.toInt ≤ 2147483647) := ⟨i32_lo _, i32_hi _⟩
  refine tk_ViP (As := [.int p1, .int 2]) (rest := []) (n := 2) hx hb hml hown hU hN hZ (s_X12_ofRule_k12_c2_2 l (dC, dI) cI cL cZ cR cG cH Z kd L f hG o0 mo0 ko0 p1 (by constructor <;> omega)) wd_894 wd_895 wd_896 wd_5 wd_897 (by decide +kernel) ⟨Nat.le_of_ble_eq_true rfl, Nat.le_of_ble_eq_true rfl⟩ hK hP hD hS mo0 hfo_6 12 rfl rfl rfl hl.1 rfl (Nat.le_of_ble_eq_true rfl) dX12_isBroken_19 ⟨Nat.le_of_ble_eq_true rfl, Nat.le_of_ble_eq_true rfl⟩ (fun x_63 f_64 H locs hw hP hD hS => ?_)
  obtain ⟨rfl, bx_63⟩ := hw
  refine lv_istore (lv' := [(7, .int x_63), (6, .int x_5), (5, .int x_4), (0, .ref o0), (1, .int p1), (2, .int p2), (3, .ref o3), (4, .int p4)]) hx hb dX12_isBroken_22 hl (by decide) rfl (fun ls hl => ?_)
  refine lv_iload hx hb dX12_isBroken_24 (lv_at hl 2 rfl) ?_
  refine lv_aload_n hx hb dX12_isBroken_26 rfl (lv_at hl 3 rfl) ?_
  refine lv_iload_n hx hb dX12_isBroken_27 rfl (lv_at hl 4 rfl) ?_
  refine lv_iconst (v := 0) hx hb dX12_isBroken_28 (by decide) ?_
  refine tk_ViP (As := [.int p1, .int 0]) (rest := [.int x_4]) (n := 2) hx hb hml hown hU hN hZ (s_X12_ofRule_k12 l (dC, dI) cI cL cZ cR cG cH Z kd L f hG o0 mo0 ko0 p1 (by constructor <;> omega) 0 (by decide)) wd_894 wd_895 wd_896 wd_5 wd_897 (by decide +kernel) ⟨Nat.le_of_ble_eq_true rfl, Nat.le_of_ble_eq_true rfl⟩ hK hP hD hS mo0 hfo_6 12 rfl rfl rfl hl.1 rfl (Nat.le_of_ble_eq_true rfl) dX12_isBroken_29 ⟨Nat.le_of_ble_eq_true rfl, Nat.le_of_ble_eq_true rfl⟩ (fun x_66 f_67 H locs hw hP hD hS => ?_)
  obtain ⟨rfl, bx_66⟩ := hw
  refine lv_icmp_eq (tgt := 37) hx hb dX12_isBroken_32 (by decide) (fun c_69 => ?_) (fun c_69 => ?_)
  · skip
    rw [← Int32.toInt_inj] at c_69
    refine lv_iload hx hb dX12_isBroken_37 (lv_at hl 1 rfl) ?_
    refine lv_aload_n hx hb dX12_isBroken_39 rfl (lv_at hl 3 rfl) ?_
    refine lv_iload_n hx hb dX12_isBroken_40 rfl (lv_at hl 4 rfl) ?_
    refine lv_iconst (v := 1) hx hb dX12_isBroken_41 (by decide) ?_
    refine tk_ViP (As := [.int p1, .int 1]) (rest := [.int x_5]) (n := 2) hx hb hml hown hU hN hZ (s_X12_ofRule_k12 l (dC, dI) cI cL cZ cR cG cH Z kd L f hG o0 mo0 ko0 p1 (by constructor <;> omega) 1 (by decide)) wd_894 wd_895 wd_896 wd_5 wd_897 (by decide +kernel) ⟨Nat.le_of_ble_eq_true rfl, Nat.le_of_ble_eq_true rfl⟩ hK hP hD hS mo0 hfo_6 12 rfl rfl rfl hl.1 rfl (Nat.le_of_ble_eq_true rfl) dX12_isBroken_42 ⟨Nat.le_of_ble_eq_true rfl, Nat.le_of_ble_eq_true rfl⟩ (fun x_70 f_71 H locs hw hP hD hS => ?_)
    obtain ⟨rfl, bx_70⟩ := hw
    have hcut_74 : ∀ (y_73 : Int32), (0 ≤ y_73.toInt ∧ y_73.toInt ≤ 1) → ∀ (ls : Array Slot), lv_has ls 10 [(7, .int x_63), (6, .int x_5), (5, .int x_4), (0, .ref o0), (1, .int p1), (2, .int p2), (3, .ref o3), (4, .int p4)] → W p l e (headSpec (wU yX12_isBroken cX12_isBroken 10 (some .boolean)) { frames := 5, cells := 0, slots := 0, locals := 128 }).room s m [.ref o0, .int p1, .int p2, .ref o3, .int p4].toArray below meth c H locs 0 0 (MQ below (va_Qi (fun (r : Int32) (f9 : Nat → va_E) => f = f9 ∧ (0 ≤ r.toInt ∧ r.toInt ≤ 1)) (qP (dC, dI) cI cL cZ cR cG cH L) (fun q => q ∈ L)) [.ref o0, .int p1, .int p2, .ref o3, .int p4].toArray s 0 0 (fun q => q ∈ L)) (F0 m 53 ls [.int y_73]) := by
      intro y_73 by_73 ls hl
      refine lv_istore (lv' := [(8, .int y_73), (7, .int x_63), (6, .int x_5), (5, .int x_4), (0, .ref o0), (1, .int p1), (2, .int p2), (3, .ref o3), (4, .int p4)]) hx hb dX12_isBroken_53 hl (by decide) rfl (fun ls hl => ?_)
      refine lv_iload hx hb dX12_isBroken_55 (lv_at hl 0 rfl) ?_
      refine lv_if_eq (tgt := 89) hx hb dX12_isBroken_57 (by decide) (fun c_75 => ?_) (fun c_75 => ?_)
      · skip
        rw [← Int32.toInt_inj, ti_0] at c_75
        refine lv_iload hx hb dX12_isBroken_89 (lv_at hl 0 rfl) ?_
        have hcut_77 : ∀ (y_76 : Int32), (0 ≤ y_76.toInt ∧ y_76.toInt ≤ 1) → ∀ (ls : Array Slot), lv_has ls 10 [(8, .int y_73), (7, .int x_63), (6, .int x_5), (5, .int x_4), (0, .ref o0), (1, .int p1), (2, .int p2), (3, .ref o3), (4, .int p4)] → W p l e (headSpec (wU yX12_isBroken cX12_isBroken 10 (some .boolean)) { frames := 5, cells := 0, slots := 0, locals := 128 }).room s m [.ref o0, .int p1, .int p2, .ref o3, .int p4].toArray below meth c H locs 0 0 (MQ below (va_Qi (fun (r : Int32) (f9 : Nat → va_E) => f = f9 ∧ (0 ≤ r.toInt ∧ r.toInt ≤ 1)) (qP (dC, dI) cI cL cZ cR cG cH L) (fun q => q ∈ L)) [.ref o0, .int p1, .int p2, .ref o3, .int p4].toArray s 0 0 (fun q => q ∈ L)) (F0 m 125 ls [.int y_76]) := by
          intro y_76 by_76 ls hl
          refine lv_istore (lv' := [(9, .int y_76), (8, .int y_73), (7, .int x_63), (6, .int x_5), (5, .int x_4), (0, .ref o0), (1, .int p1), (2, .int p2), (3, .ref o3), (4, .int p4)]) hx hb dX12_isBroken_125 hl (by decide) rfl (fun ls hl => ?_)
          refine lv_iload hx hb dX12_isBroken_127 (lv_at hl 0 rfl) ?_
          refine lv_if_eq (tgt := 148) hx hb dX12_isBroken_129 (by decide) (fun c_78 => ?_) (fun c_78 => ?_)
          · skip
            rw [← Int32.toInt_inj, ti_0] at c_78
            refine lv_iconst (v := 0) hx hb dX12_isBroken_148 (by decide) ?_
            exact W.zret (v := 0) (ty := .boolean) hx hb hr rfl (fun t ht hW => ⟨⟨0, f, rfl, ⟨rfl, (by decide)⟩, by rw [ht]; exact hP, va_K.moved hW.alike hK, pl_in hD⟩, hS.F ht⟩) hS.2.2 dX12_isBroken_149
          · skip
            rw [← Int32.toInt_inj, ti_0] at c_78
            refine lv_aload_n hx hb dX12_isBroken_132 rfl (lv_at hl 5 rfl) ?_
            refine lv_iload_n hx hb dX12_isBroken_133 rfl (lv_at hl 6 rfl) ?_
            refine lv_iload_n hx hb dX12_isBroken_134 rfl (lv_at hl 7 rfl) ?_
            refine lv_aload_n hx hb dX12_isBroken_135 rfl (lv_at hl 8 rfl) ?_
            refine lv_iload hx hb dX12_isBroken_136 (lv_at hl 9 rfl) ?_
            refine tk_ViP (As := [.int p1, .int p2, .ref o3, .int p4]) (rest := []) (n := 4) hx hb hml hown hU hN hZ (s_X12_someHolds_k12_a588 l (dC, dI) cI cL cZ cR cG cH Z kd L f hG o0 mo0 ko0 p1 (by constructor <;> omega) p2 (by constructor <;> omega) o3 mo3 ko3 p4 (by constructor <;> omega)) wd_934 wd_935 wd_936 wd_5 wd_937 (by decide +kernel) ⟨Nat.le_of_ble_eq_true rfl, Nat.le_of_ble_eq_true rfl⟩ hK hP hD hS mo0 hfo_6 12 rfl rfl rfl hl.1 rfl (Nat.le_of_ble_eq_true rfl) dX12_isBroken_138 ⟨Nat.le_of_ble_eq_true rfl, Nat.le_of_ble_eq_true rfl⟩ (fun x_79 f_80 H locs hw hP hD hS => ?_)
            obtain ⟨rfl, bx_79⟩ := hw
            refine lv_if_eq (tgt := 148) hx hb dX12_isBroken_141 (by decide) (fun c_82 => ?_) (fun c_82 => ?_)
            · skip
              rw [← Int32.toInt_inj, ti_0] at c_82
              refine lv_iconst (v := 0) hx hb dX12_isBroken_148 (by decide) ?_
              exact W.zret (v := 0) (ty := .boolean) hx hb hr rfl (fun t ht hW => ⟨⟨0, f, rfl, ⟨rfl, (by decide)⟩, by rw [ht]; exact hP, va_K.moved hW.alike hK, pl_in hD⟩, hS.F ht⟩) hS.2.2 dX12_isBroken_149
            · skip
              rw [← Int32.toInt_inj, ti_0] at c_82
              refine lv_iconst (v := 1) hx hb dX12_isBroken_144 (by decide) ?_
              refine lv_goto (tgt := 149) hx hb dX12_isBroken_145 (by decide) ?_
              exact W.zret (v := 1) (ty := .boolean) hx hb hr rfl (fun t ht hW => ⟨⟨1, f, rfl, ⟨rfl, (by decide)⟩, by rw [ht]; exact hP, va_K.moved hW.alike hK, pl_in hD⟩, hS.F ht⟩) hS.2.2 dX12_isBroken_149
        refine lv_if_eq (tgt := 108) hx hb dX12_isBroken_91 (by decide) (fun c_83 => ?_) (fun c_83 => ?_)
        · skip
          rw [← Int32.toInt_inj, ti_0] at c_83
          refine lv_iload hx hb dX12_isBroken_108 (lv_at hl 1 rfl) ?_
          refine lv_iconst (v := 1) hx hb dX12_isBroken_110 (by decide) ?_
          refine lv_icmp_eq (tgt := 120) hx hb dX12_isBroken_111 (by decide) (fun c_84 => ?_) (fun c_84 => ?_)
          · skip
            rw [← Int32.toInt_inj, ti_1] at c_84
            refine lv_iconst (v := 1) hx hb dX12_isBroken_120 (by decide) ?_
            refine lv_goto (tgt := 125) hx hb dX12_isBroken_121 (by decide) ?_
            exact hcut_77 1 (by decide) ls (lv_sub hl [0, 1, 2, 3, 4, 5, 6, 7, 8] rfl)
          · skip
            rw [← Int32.toInt_inj, ti_1] at c_84
            refine lv_iload hx hb dX12_isBroken_114 (lv_at hl 1 rfl) ?_
            refine lv_iconst (v := 2) hx hb dX12_isBroken_116 (by decide) ?_
            refine lv_icmp_ne (tgt := 124) hx hb dX12_isBroken_117 (by decide) (fun c_85 => ?_) (fun c_85 => ?_)
            · skip
              rw [← Int32.toInt_inj, ti_2] at c_85
              refine lv_iconst (v := 0) hx hb dX12_isBroken_124 (by decide) ?_
              exact hcut_77 0 (by decide) ls (lv_sub hl [0, 1, 2, 3, 4, 5, 6, 7, 8] rfl)
            · skip
              rw [← Int32.toInt_inj, ti_2] at c_85
              refine lv_iconst (v := 1) hx hb dX12_isBroken_120 (by decide) ?_
              refine lv_goto (tgt := 125) hx hb dX12_isBroken_121 (by decide) ?_
              exact hcut_77 1 (by decide) ls (lv_sub hl [0, 1, 2, 3, 4, 5, 6, 7, 8] rfl)
        · skip
          rw [← Int32.toInt_inj, ti_0] at c_83
          exfalso
          omega
      · skip
        rw [← Int32.toInt_inj, ti_0] at c_75
        refine lv_iload hx hb dX12_isBroken_60 (lv_at hl 1 rfl) ?_
        refine lv_if_eq (tgt := 71) hx hb dX12_isBroken_62 (by decide) (fun c_86 => ?_) (fun c_86 => ?_)
        · skip
          rw [← Int32.toInt_inj, ti_0] at c_86
          refine lv_aload_n hx hb dX12_isBroken_71 rfl (lv_at hl 4 rfl) ?_
          refine lv_iload_n hx hb dX12_isBroken_72 rfl (lv_at hl 5 rfl) ?_
          refine lv_iload_n hx hb dX12_isBroken_73 rfl (lv_at hl 6 rfl) ?_
          refine lv_aload_n hx hb dX12_isBroken_74 rfl (lv_at hl 7 rfl) ?_
          refine lv_iload hx hb dX12_isBroken_75 (lv_at hl 8 rfl) ?_
          refine tk_ViP (As := [.int p1, .int p2, .ref o3, .int p4]) (rest := []) (n := 4) hx hb hml hown hU hN hZ (s_X12_someHolds_k12_a588 l (dC, dI) cI cL cZ cR cG cH Z kd L f hG o0 mo0 ko0 p1 (by constructor <;> omega) p2 (by constructor <;> omega) o3 mo3 ko3 p4 (by constructor <;> omega)) wd_934 wd_935 wd_936 wd_5 wd_937 (by decide +kernel) ⟨Nat.le_of_ble_eq_true rfl, Nat.le_of_ble_eq_true rfl⟩ hK hP hD hS mo0 hfo_6 12 rfl rfl rfl hl.1 rfl (Nat.le_of_ble_eq_true rfl) dX12_isBroken_77 ⟨Nat.le_of_ble_eq_true rfl, Nat.le_of_ble_eq_true rfl⟩ (fun x_87 f_88 H locs hw hP hD hS => ?_)
          obtain ⟨rfl, bx_87⟩ := hw
          refine lv_if_ne (tgt := 87) hx hb dX12_isBroken_80 (by decide) (fun c_90 => ?_) (fun c_90 => ?_)
          · skip
            rw [← Int32.toInt_inj, ti_0] at c_90
            refine lv_iconst (v := 0) hx hb dX12_isBroken_87 (by decide) ?_
            exact W.zret (v := 0) (ty := .boolean) hx hb hr rfl (fun t ht hW => ⟨⟨0, f, rfl, ⟨rfl, (by decide)⟩, by rw [ht]; exact hP, va_K.moved hW.alike hK, pl_in hD⟩, hS.F ht⟩) hS.2.2 dX12_isBroken_88
          · skip
            rw [← Int32.toInt_inj, ti_0] at c_90
            refine lv_iconst (v := 1) hx hb dX12_isBroken_83 (by decide) ?_
            refine lv_goto (tgt := 88) hx hb dX12_isBroken_84 (by decide) ?_
            exact W.zret (v := 1) (ty := .boolean) hx hb hr rfl (fun t ht hW => ⟨⟨1, f, rfl, ⟨rfl, (by decide)⟩, by rw [ht]; exact hP, va_K.moved hW.alike hK, pl_in hD⟩, hS.F ht⟩) hS.2.2 dX12_isBroken_88
        · skip
          rw [← Int32.toInt_inj, ti_0] at c_86
          refine lv_iload hx hb dX12_isBroken_65 (lv_at hl 1 rfl) ?_
          refine lv_iconst (v := 2) hx hb dX12_isBroken_67 (by decide) ?_
          refine lv_icmp_ne (tgt := 89) hx hb dX12_isBroken_68 (by decide) (fun c_91 => ?_) (fun c_91 => ?_)
          · skip
            rw [← Int32.toInt_inj, ti_2] at c_91
            refine lv_iload hx hb dX12_isBroken_89 (lv_at hl 0 rfl) ?_
            have hcut_93 : ∀ (y_92 : Int32), (0 ≤ y_92.toInt ∧ y_92.toInt ≤ 1) → ∀ (ls : Array Slot), lv_has ls 10 [(8, .int y_73), (7, .int x_63), (6, .int x_5), (5, .int x_4), (0, .ref o0), (1, .int p1), (2, .int p2), (3, .ref o3), (4, .int p4)] → W p l e (headSpec (wU yX12_isBroken cX12_isBroken 10 (some .boolean)) { frames := 5, cells := 0, slots := 0, locals := 128 }).room s m [.ref o0, .int p1, .int p2, .ref o3, .int p4].toArray below meth c H locs 0 0 (MQ below (va_Qi (fun (r : Int32) (f9 : Nat → va_E) => f = f9 ∧ (0 ≤ r.toInt ∧ r.toInt ≤ 1)) (qP (dC, dI) cI cL cZ cR cG cH L) (fun q => q ∈ L)) [.ref o0, .int p1, .int p2, .ref o3, .int p4].toArray s 0 0 (fun q => q ∈ L)) (F0 m 125 ls [.int y_92]) := by
              intro y_92 by_92 ls hl
              refine lv_istore (lv' := [(9, .int y_92), (8, .int y_73), (7, .int x_63), (6, .int x_5), (5, .int x_4), (0, .ref o0), (1, .int p1), (2, .int p2), (3, .ref o3), (4, .int p4)]) hx hb dX12_isBroken_125 hl (by decide) rfl (fun ls hl => ?_)
              refine lv_iload hx hb dX12_isBroken_127 (lv_at hl 0 rfl) ?_
              refine lv_if_eq (tgt := 148) hx hb dX12_isBroken_129 (by decide) (fun c_94 => ?_) (fun c_94 => ?_)
              · skip
                rw [← Int32.toInt_inj, ti_0] at c_94
                refine lv_iconst (v := 0) hx hb dX12_isBroken_148 (by decide) ?_
                exact W.zret (v := 0) (ty := .boolean) hx hb hr rfl (fun t ht hW => ⟨⟨0, f, rfl, ⟨rfl, (by decide)⟩, by rw [ht]; exact hP, va_K.moved hW.alike hK, pl_in hD⟩, hS.F ht⟩) hS.2.2 dX12_isBroken_149
              · skip
                rw [← Int32.toInt_inj, ti_0] at c_94
                refine lv_aload_n hx hb dX12_isBroken_132 rfl (lv_at hl 5 rfl) ?_
                refine lv_iload_n hx hb dX12_isBroken_133 rfl (lv_at hl 6 rfl) ?_
                refine lv_iload_n hx hb dX12_isBroken_134 rfl (lv_at hl 7 rfl) ?_
                refine lv_aload_n hx hb dX12_isBroken_135 rfl (lv_at hl 8 rfl) ?_
                refine lv_iload hx hb dX12_isBroken_136 (lv_at hl 9 rfl) ?_
                refine tk_ViP (As := [.int p1, .int p2, .ref o3, .int p4]) (rest := []) (n := 4) hx hb hml hown hU hN hZ (s_X12_someHolds_k12_a588 l (dC, dI) cI cL cZ cR cG cH Z kd L f hG o0 mo0 ko0 p1 (by constructor <;> omega) p2 (by constructor <;> omega) o3 mo3 ko3 p4 (by constructor <;> omega)) wd_934 wd_935 wd_936 wd_5 wd_937 (by decide +kernel) ⟨Nat.le_of_ble_eq_true rfl, Nat.le_of_ble_eq_true rfl⟩ hK hP hD hS mo0 hfo_6 12 rfl rfl rfl hl.1 rfl (Nat.le_of_ble_eq_true rfl) dX12_isBroken_138 ⟨Nat.le_of_ble_eq_true rfl, Nat.le_of_ble_eq_true rfl⟩ (fun x_95 f_96 H locs hw hP hD hS => ?_)
                obtain ⟨rfl, bx_95⟩ := hw
                refine lv_if_eq (tgt := 148) hx hb dX12_isBroken_141 (by decide) (fun c_98 => ?_) (fun c_98 => ?_)
                · skip
                  rw [← Int32.toInt_inj, ti_0] at c_98
                  refine lv_iconst (v := 0) hx hb dX12_isBroken_148 (by decide) ?_
                  exact W.zret (v := 0) (ty := .boolean) hx hb hr rfl (fun t ht hW => ⟨⟨0, f, rfl, ⟨rfl, (by decide)⟩, by rw [ht]; exact hP, va_K.moved hW.alike hK, pl_in hD⟩, hS.F ht⟩) hS.2.2 dX12_isBroken_149
                · skip
                  rw [← Int32.toInt_inj, ti_0] at c_98
                  refine lv_iconst (v := 1) hx hb dX12_isBroken_144 (by decide) ?_
                  refine lv_goto (tgt := 149) hx hb dX12_isBroken_145 (by decide) ?_
                  exact W.zret (v := 1) (ty := .boolean) hx hb hr rfl (fun t ht hW => ⟨⟨1, f, rfl, ⟨rfl, (by decide)⟩, by rw [ht]; exact hP, va_K.moved hW.alike hK, pl_in hD⟩, hS.F ht⟩) hS.2.2 dX12_isBroken_149
            refine lv_if_eq (tgt := 108) hx hb dX12_isBroken_91 (by decide) (fun c_99 => ?_) (fun c_99 => ?_)
            · skip
              rw [← Int32.toInt_inj, ti_0] at c_99
              exfalso
              omega
            · skip
              rw [← Int32.toInt_inj, ti_0] at c_99
              refine lv_iload hx hb dX12_isBroken_94 (lv_at hl 1 rfl) ?_
              refine lv_iconst (v := 3) hx hb dX12_isBroken_96 (by decide) ?_
              refine lv_icmp_ne (tgt := 104) hx hb dX12_isBroken_97 (by decide) (fun c_100 => ?_) (fun c_100 => ?_)
              · skip
                rw [← Int32.toInt_inj, ti_3] at c_100
                refine lv_iconst (v := 0) hx hb dX12_isBroken_104 (by decide) ?_
                refine lv_goto (tgt := 125) hx hb dX12_isBroken_105 (by decide) ?_
                exact hcut_93 0 (by decide) ls (lv_sub hl [0, 1, 2, 3, 4, 5, 6, 7, 8] rfl)
              · skip
                rw [← Int32.toInt_inj, ti_3] at c_100
                refine lv_iconst (v := 1) hx hb dX12_isBroken_100 (by decide) ?_
                refine lv_goto (tgt := 125) hx hb dX12_isBroken_101 (by decide) ?_
                exact hcut_93 1 (by decide) ls (lv_sub hl [0, 1, 2, 3, 4, 5, 6, 7, 8] rfl)
          · skip
            rw [← Int32.toInt_inj, ti_2] at c_91
            refine lv_aload_n hx hb dX12_isBroken_71 rfl (lv_at hl 4 rfl) ?_
            refine lv_iload_n hx hb dX12_isBroken_72 rfl (lv_at hl 5 rfl) ?_
            refine lv_iload_n hx hb dX12_isBroken_73 rfl (lv_at hl 6 rfl) ?_
            refine lv_aload_n hx hb dX12_isBroken_74 rfl (lv_at hl 7 rfl) ?_
            refine lv_iload hx hb dX12_isBroken_75 (lv_at hl 8 rfl) ?_
            refine tk_ViP (As := [.int p1, .int p2, .ref o3, .int p4]) (rest := []) (n := 4) hx hb hml hown hU hN hZ (s_X12_someHolds_k12_a588 l (dC, dI) cI cL cZ cR cG cH Z kd L f hG o0 mo0 ko0 p1 (by constructor <;> omega) p2 (by constructor <;> omega) o3 mo3 ko3 p4 (by constructor <;> omega)) wd_934 wd_935 wd_936 wd_5 wd_937 (by decide +kernel) ⟨Nat.le_of_ble_eq_true rfl, Nat.le_of_ble_eq_true rfl⟩ hK hP hD hS mo0 hfo_6 12 rfl rfl rfl hl.1 rfl (Nat.le_of_ble_eq_true rfl) dX12_isBroken_77 ⟨Nat.le_of_ble_eq_true rfl, Nat.le_of_ble_eq_true rfl⟩ (fun x_101 f_102 H locs hw hP hD hS => ?_)
            obtain ⟨rfl, bx_101⟩ := hw
            refine lv_if_ne (tgt := 87) hx hb dX12_isBroken_80 (by decide) (fun c_104 => ?_) (fun c_104 => ?_)
            · skip
              rw [← Int32.toInt_inj, ti_0] at c_104
              refine lv_iconst (v := 0) hx hb dX12_isBroken_87 (by decide) ?_
              exact W.zret (v := 0) (ty := .boolean) hx hb hr rfl (fun t ht hW => ⟨⟨0, f, rfl, ⟨rfl, (by decide)⟩, by rw [ht]; exact hP, va_K.moved hW.alike hK, pl_in hD⟩, hS.F ht⟩) hS.2.2 dX12_isBroken_88
            · skip
              rw [← Int32.toInt_inj, ti_0] at c_104
              refine lv_iconst (v := 1) hx hb dX12_isBroken_83 (by decide) ?_
              refine lv_goto (tgt := 88) hx hb dX12_isBroken_84 (by decide) ?_
              exact W.zret (v := 1) (ty := .boolean) hx hb hr rfl (fun t ht hW => ⟨⟨1, f, rfl, ⟨rfl, (by decide)⟩, by rw [ht]; exact hP, va_K.moved hW.alike hK, pl_in hD⟩, hS.F ht⟩) hS.2.2 dX12_isBroken_88
    refine lv_icmp_ne (tgt := 52) hx hb dX12_isBroken_45 (by decide) (fun c_105 => ?_) (fun c_105 => ?_)
    · skip
      rw [← Int32.toInt_inj] at c_105
      refine lv_iconst (v := 0) hx hb dX12_isBroken_52 (by decide) ?_
      exact hcut_74 0 (by decide) ls (lv_sub hl [0, 1, 2, 3, 4, 5, 6, 7] rfl)
    · skip
      rw [← Int32.toInt_inj] at c_105
      refine lv_iconst (v := 1) hx hb dX12_isBroken_48 (by decide) ?_
      refine lv_goto (tgt := 53) hx hb dX12_isBroken_49 (by decide) ?_
      exact hcut_74 1 (by decide) ls (lv_sub hl [0, 1, 2, 3, 4, 5, 6, 7] rfl)
  · skip
    rw [← Int32.toInt_inj] at c_69
    refine lv_iconst (v := 0) hx hb dX12_isBroken_35 (by decide) ?_
    exact W.zret (v := 0) (ty := .boolean) hx hb hr rfl (fun t ht hW => ⟨⟨0, f, rfl, ⟨rfl, (by decide)⟩, by rw [ht]; exact hP, va_K.moved hW.alike hK, pl_in hD⟩, hS.F ht⟩) hS.2.2 dX12_isBroken_36
set_option maxHeartbeats 8000000 in
set_option maxRecDepth 100000 in
theorem s_X12_begins_k12 (l : Launch) (D : va_G) (cI cL cZ cR cG cH : ClassId) (Z : zT) (kd : Nat → Nat) (L : List Nat) (f : Nat → va_E) (hG : GI (okc cI cL cZ cR cG cH L kd) kd L f) (o0 : Nat) (mo0 : o0 ∈ L) (ko0 : kd o0 = 12) : mPV l D cI cL cZ cR cG cH Z yX12_begins cX12_begins 2 none 2 47 [.ref o0] L f (fun (f9 : Nat → va_E) => GI (okc cI cL cZ cR cG cH L kd) kd L f9 ∧ (∀ b, kd b ≠ 579 → kd b ≠ 581 → kd b ≠ 587 → f9 b = f b)) := by
  obtain ⟨dC, dI⟩ := D
  refine Met.ofW (cc := cX12_begins) (maxL := 2) (ret := none) (by decide) rfl ?_
  intro p e s m args below meth c s₁ B hml hv
  obtain ⟨rfl, hP, hK, hD0, hN, hZ⟩ := hv
  have hx := B.exec
  have hb := B.bytes
  have hr := B.returns
  have hU : ∀ w ∈ wsU, w.before _ s = true := fun w h => atoms_spec (ws := wU yX12_begins cX12_begins 2 none) B.pre w (List.mem_cons_of_mem _ h)
  have hown : s.vm.findClass RX12 = some m.cls := findClass_of_methodNamed B.named
  have hlocks := B.notSynchronized
  have hD := pl_in hD0
  have hS : va_S (fun q => q ∈ L) s.heap s.heap [] := va_S.rf
  have hl := lv_entry ([.ref o0]) (n := 2) (Nat.le_of_ble_eq_true rfl)
  rw [lg_entry_eq]
  generalize (lg_sl ([.ref o0]) ++ List.replicate (2 - (lg_sl ([.ref o0])).length) Slot.unset).toArray = ls at hl ⊢
  have hl : lv_has ls 2 [(0, .ref o0)] := hl
  have hfr0 : ∀ b, kd b ≠ 579 → kd b ≠ 581 → kd b ≠ 587 → f b = f b := fun _ _ _ _ => rfl
  refine lv_iconst (v := 0) hx hb dX12_begins_0 (by decide) ?_
  refine lv_istore_n (lv' := [(1, .int 0), (0, .ref o0)]) hx hb dX12_begins_1 rfl hl (by decide) rfl (fun ls hl => ?_)
  have hloop_13 : ∀ (n : Nat), ∀ (y_14 : Int32), (0 ≤ y_14.toInt ∧ y_14.toInt ≤ 24) → ∀ (f_16 : Nat → va_E), GI (okc cI cL cZ cR cG cH L kd) kd L f_16 → ∀ (H : Heap) (locs : List Loc), va_P (dC, dI) vwCl (va_pl L f_16) H → va_S (fun q => q ∈ L) s.heap H locs → va_D (fun q => q ∈ L) (va_pl L f_16) → (∀ b, kd b ≠ 579 → kd b ≠ 581 → kd b ≠ 587 → f_16 b = f b) → 24 - y_14.toInt < (n : Int) → ∀ (ls : Array Slot), lv_has ls 2 [(1, .int y_14), (0, .ref o0)] → W p l e (headSpec (wU yX12_begins cX12_begins 2 none) { frames := 2, cells := 0, slots := 0, locals := 47 }).room s m [.ref o0].toArray below meth c H locs 0 0 (MQ below (va_Qv (fun (f9 : Nat → va_E) => GI (okc cI cL cZ cR cG cH L kd) kd L f9 ∧ (∀ b, kd b ≠ 579 → kd b ≠ 581 → kd b ≠ 587 → f9 b = f b)) (qP (dC, dI) cI cL cZ cR cG cH L) (fun q => q ∈ L)) [.ref o0].toArray s 0 0 (fun q => q ∈ L)) (F0 m 2 ls []) := by
    intro n
    induction n with
    | zero => intro y_14 by_14 f_16 hG H locs hP hS hD hfr0 hmuhloop_13 ls hl; exfalso; omega
    | succ n ih_hloop_13 =>
      intro y_14 by_14 f_16 hG H locs hP hS hD hfr0 hmuhloop_13 ls hl
      refine lv_iload_n hx hb dX12_begins_2 rfl (lv_at hl 0 rfl) ?_
      refine lv_iconst (v := 3) hx hb dX12_begins_3 (by decide) ?_
      refine lv_aload_n hx hb dX12_begins_4 rfl (lv_at hl 1 rfl) ?_
      obtain ⟨a_18, a_19, a_20, v_21, a_22, v_23, v_24, v_25, v_26, v_27, v_28, v_29, v_30, v_31, v_32, a_33, a_34, a_35, a_36, a_37, a_38, a_39, a_40, v_41, v_42, v_43, v_44, v_45, a_46, v_47, a_48, a_49, v_50, v_51, a_52, v_53, a_54, a_55, v_56, v_57, a_58, a_59, a_60, v_61, a_62, a_63, a_64, a_65, a_66, a_67, a_68, a_69, a_70, v_71, v_72, a_73, hfo_17, ⟨ma_18, ka_18⟩, ⟨ma_19, ka_19⟩, ⟨ma_20, ka_20⟩, bv_21, ⟨ma_22, ka_22⟩, bv_23, bv_24, bv_29, bv_30, bv_31, ⟨ma_33, ka_33⟩, ⟨ma_34, ka_34⟩, ⟨ma_35, ka_35⟩, ⟨ma_36, ka_36⟩, ⟨ma_37, ka_37⟩, ⟨ma_38, ka_38⟩, ⟨ma_39, ka_39⟩, ⟨ma_40, ka_40⟩, bv_41, bv_43, bv_45, ⟨ma_46, ka_46⟩, bv_47, ⟨ma_48, ka_48⟩, ⟨ma_49, ka_49⟩, bv_50, ⟨ma_52, ka_52⟩, bv_53, ⟨ma_54, ka_54⟩, ⟨ma_55, ka_55⟩, bv_56, ⟨ma_58, ka_58⟩, ⟨ma_59, ka_59⟩, ⟨ma_60, ka_60⟩, bv_61, ⟨ma_62, ka_62⟩, ⟨ma_63, ka_63⟩, ⟨ma_64, ka_64⟩, ⟨ma_65, ka_65⟩, ⟨ma_66, ka_66⟩, ⟨ma_67, ka_67⟩, ⟨ma_68, ka_68⟩, ⟨ma_69, ka_69⟩, ⟨ma_70, ka_70⟩, bv_71, ⟨ma_73, ka_73⟩⟩ := un_12 (hG _ mo0) ko0
      have bv_25 : ((-2147483648) ≤ v_25.toInt ∧ v_25.toInt ≤ 2147483647) := ⟨i32_lo _, i32_hi _⟩
      have bv_26 : ((-2147483648) ≤ v_26.toInt ∧ v_26.toInt ≤ 2147483647) := ⟨i32_lo _, i32_hi _⟩
      have bv_27 : ((-2147483648) ≤ v_27.toInt ∧ v_27.toInt ≤ 2147483647) := ⟨i32_lo _, i32_hi _⟩
      have bv_28 : ((-2147483648) ≤ v_28.toInt ∧ v_28.toInt ≤ 2147483647) := ⟨i32_lo _, i32_hi _⟩
      have bv_32 : ((-2147483648) ≤ v_32.toInt ∧ v_32.toInt ≤ 2147483647) := ⟨i32_lo _, i32_hi _⟩
      have bv_42 : ((-2147483648) ≤ v_42.toInt ∧ v_42.toInt ≤ 2147483647) := ⟨i32_lo _, i32_hi _⟩
      have bv_44 : ((-2147483648) ≤ v_44.toInt ∧ v_44.toInt ≤ 2147483647) := ⟨i32_lo _, i32_hi _⟩
      have bv_51 : ((-2147483648) ≤ v_51.toInt ∧ v_51.toInt ≤ 2147483647) := ⟨i32_lo _, i32_hi _⟩
      have bv_57 : ((-2147483648) ≤ v_57.toInt ∧ v_57.toInt ≤ 2147483647) := ⟨i32_lo _, i32_hi _⟩
      have bv_72 : ((-2147483648) ≤ v_72.toInt ∧ v_72.toInt ≤ 2147483647) := ⟨i32_lo _, i32_hi _⟩
      refine tk_getP (D := (dC, dI)) (ci := 12) (v := .ref a_18) (C := RX12) (T := TX12) (N := 56) hx hb hU inlX12 hown hK hP mo0 hfo_17 rfl 0 (by decide) (hU _ wd_169) (fun _ h9 => h9) rfl dX12_begins_5 ?_
      refine lv_bipush (v := 17) hx hb dX12_begins_8 (by decide) ?_
      obtain ⟨g_75, hfo_74, hbg_75⟩ := un_575 (hG _ ma_18) ka_18
      refine tk_ildP hx hb hK hP 0 ma_18 hfo_74 rfl (vp_in_nI (n := 17) (by decide) (by decide)) dX12_begins_10 ?_
      refine lv_topi (fun x_76 ex_76 => ?_)
      have bx_76 : (0 ≤ x_76.toInt ∧ x_76.toInt ≤ 8) := by rw [ex_76]; exact hbg_75.2.2.1 _ (by decide) (by decide) (by decide)
      refine lv_imul hx hb dX12_begins_11 ?_
      refine lv_topi (fun x_77 ex_77 => ?_)
      have hx_77 : x_77.toInt = 3 * x_76.toInt := by rw [ex_77, ml_I (by rw [ti_3]; omega) (by rw [ti_3]; omega), ti_3]
      have bx_77 : (0 ≤ x_77.toInt ∧ x_77.toInt ≤ 24) := by constructor <;> omega
      refine lv_icmp_ge (tgt := 45) hx hb dX12_begins_12 (by decide) (fun c_78 => ?_) (fun c_78 => ?_)
      · skip
        rw [Int32.le_iff_toInt_le] at c_78
        refine lv_aload_n hx hb dX12_begins_45 rfl (lv_at hl 1 rfl) ?_
        refine tk_getP (D := (dC, dI)) (ci := 12) (v := .ref a_37) (C := RX12) (T := TX12) (N := 56) hx hb hU inlX12 hown hK hP mo0 hfo_17 rfl 19 (by decide) (hU _ wd_179) (fun _ h9 => h9) rfl dX12_begins_46 ?_
        refine lv_iconst (v := 0) hx hb dX12_begins_49 (by decide) ?_
        refine lv_iconst (v := 0) hx hb dX12_begins_50 (by decide) ?_
        obtain ⟨g_80, hfo_79, hbg_80⟩ := un_587 (hG _ ma_37) ka_37
        refine tk_istP hx hb hK hP hD hS 0 ma_37 hfo_79 rfl (vp_in_nI (n := 0) (by decide) (by decide)) dX12_begins_51 (fun H locs hP hD hS => ?_)
        have hc9 : ((Int32.toNatClampNeg 0 : Nat) : Int) = 0 := by decide
        obtain ⟨f_82, ef_82⟩ : ∃ y : Nat → va_E, y = va_up f_16 a_37 (.inl (cI, 20, .inl (upd g_80 (Int32.toNatClampNeg 0) 0))) := ⟨_, rfl⟩
        have hP : va_P (dC, dI) vwCl (va_pl L f_82) H := by rw [ef_82]; exact hP
        have hD : va_D (fun q => q ∈ L) (va_pl L f_82) := by rw [ef_82]; exact hD
        have hG : GI (okc cI cL cZ cR cG cH L kd) kd L f_82 := by rw [ef_82]; exact hG.set a_37 (mk_587 ka_37 ⟨_, rfl, by intro j; by_cases hj : j = Int32.toNatClampNeg 0; (· subst hj; rw [pk_us]; (try rw [ti_0]); constructor <;> omega); (· rw [pk_un hj]; exact hbg_80 j)⟩)
        have hfo_83 : f_82 o0 = .inr (12, [.ref a_18, .ref a_19, .ref a_20, .int v_21, .ref a_22, .int v_23, .int v_24, .int v_25, .int v_26, .int v_27, .int v_28, .int v_29, .int v_30, .int v_31, .int v_32, .ref a_33, .ref a_34, .ref a_35, .ref a_36, .ref a_37, .ref a_38, .ref a_39, .ref a_40, .int v_41, .int v_42, .int v_43, .int v_44, .int v_45, .ref a_46, .int v_47, .ref a_48, .ref a_49, .int v_50, .int v_51, .ref a_52, .int v_53, .ref a_54, .ref a_55, .int v_56, .int v_57, .ref a_58, .ref a_59, .ref a_60, .int v_61, .ref a_62, .ref a_63, .ref a_64, .ref a_65, .ref a_66, .ref a_67, .ref a_68, .ref a_69, .ref a_70, .int v_71, .int v_72, .ref a_73]) := by rw [ef_82, up_ne (kd_ne ka_37 ko0 (by decide))]; exact hfo_17
        have hfo_84 : f_82 a_18 = .inl (cI, 1560, .inl g_75) := by rw [ef_82, up_ne (kd_ne ka_37 ka_18 (by decide))]; exact hfo_74
        have hfr0 : ∀ b, kd b ≠ 579 → kd b ≠ 581 → kd b ≠ 587 → f_82 b = f b := fun b q579 q581 q587 => (congrFun ef_82 b).trans ((up_ne (fun e9 => q587 (by rw [e9]; exact ka_37))).trans (hfr0 b q579 q581 q587))
        have hfo_85 : f_82 a_37 = .inl (cI, 20, .inl (upd g_80 (Int32.toNatClampNeg 0) 0)) := by rw [ef_82]; exact up_self
        exact W.vret hx hb hr (fun t ht hW => ⟨⟨f_82, rfl, ⟨hG, hfr0⟩, by rw [ht]; exact hP, va_K.moved hW.alike hK, pl_in hD⟩, hS.F ht⟩) hS.2.2 dX12_begins_52
      · skip
        rw [Int32.le_iff_toInt_le] at c_78
        refine lv_aload_n hx hb dX12_begins_15 rfl (lv_at hl 1 rfl) ?_
        refine tk_getP (D := (dC, dI)) (ci := 12) (v := .ref a_33) (C := RX12) (T := TX12) (N := 56) hx hb hU inlX12 hown hK hP mo0 hfo_17 rfl 15 (by decide) (hU _ wd_175) (fun _ h9 => h9) rfl dX12_begins_16 ?_
        refine lv_iconst (v := 0) hx hb dX12_begins_19 (by decide) ?_
        obtain ⟨g_87, hfo_86, hbg_87⟩ := un_580 (hG _ ma_33) ka_33
        obtain ⟨a_88, hga_88, ma_88, ka_88⟩ := hbg_87 (Int32.toNatClampNeg 0) (in_lt (vp_in_nI (n := 0) (by decide) (by decide)))
        refine tk_aldA hx hb hK hP 4 ma_33 hfo_86 rfl (vp_in_nI (n := 0) (by decide) (by decide)) hga_88 dX12_begins_20 ?_
        refine lv_iload_n hx hb dX12_begins_21 rfl (lv_at hl 0 rfl) ?_
        refine lv_aload_n hx hb dX12_begins_22 rfl (lv_at hl 1 rfl) ?_
        refine lv_iload_n hx hb dX12_begins_23 rfl (lv_at hl 0 rfl) ?_
        refine lv_iconst (v := 0) hx hb dX12_begins_24 (by decide) ?_
        refine lv_iconst (v := 1) hx hb dX12_begins_25 (by decide) ?_
        refine tk_ViP (As := [.int y_14, .int 0, .int 1]) (rest := [.int y_14, .ref a_88]) (n := 3) hx hb hml hown hU hN hZ (s_X12_closed_k12 l (dC, dI) cI cL cZ cR cG cH Z kd L f_16 hG o0 mo0 ko0 y_14 (by constructor <;> omega) 0 (by decide) 1 (by decide)) wd_878 wd_879 wd_880 wd_5 wd_881 (by decide +kernel) ⟨Nat.le_of_ble_eq_true rfl, Nat.le_of_ble_eq_true rfl⟩ hK hP hD hS mo0 hfo_17 12 rfl rfl rfl hl.1 rfl (Nat.le_of_ble_eq_true rfl) dX12_begins_26 ⟨Nat.le_of_ble_eq_true rfl, Nat.le_of_ble_eq_true rfl⟩ (fun x_89 f_90 H locs hw hP hD hS => ?_)
        obtain ⟨rfl, bx_89⟩ := hw
        obtain ⟨g_93, hfo_92, hbg_93⟩ := un_579 (hG _ ma_88) ka_88
        refine tk_istP hx hb hK hP hD hS 0 ma_88 hfo_92 rfl (vp_in_iff.mpr (by constructor <;> omega)) dX12_begins_29 (fun H locs hP hD hS => ?_)
        obtain ⟨f_95, ef_95⟩ : ∃ y : Nat → va_E, y = va_up f_16 a_88 (.inl (cI, 24, .inl (upd g_93 (Int32.toNatClampNeg y_14) x_89))) := ⟨_, rfl⟩
        have hP : va_P (dC, dI) vwCl (va_pl L f_95) H := by rw [ef_95]; exact hP
        have hD : va_D (fun q => q ∈ L) (va_pl L f_95) := by rw [ef_95]; exact hD
        have hG : GI (okc cI cL cZ cR cG cH L kd) kd L f_95 := by rw [ef_95]; exact hG.set a_88 (mk_579 ka_88 ⟨_, rfl, okI_up hbg_93 ⟨i32_lo _, i32_hi _⟩ _⟩)
        have hfo_96 : f_95 o0 = .inr (12, [.ref a_18, .ref a_19, .ref a_20, .int v_21, .ref a_22, .int v_23, .int v_24, .int v_25, .int v_26, .int v_27, .int v_28, .int v_29, .int v_30, .int v_31, .int v_32, .ref a_33, .ref a_34, .ref a_35, .ref a_36, .ref a_37, .ref a_38, .ref a_39, .ref a_40, .int v_41, .int v_42, .int v_43, .int v_44, .int v_45, .ref a_46, .int v_47, .ref a_48, .ref a_49, .int v_50, .int v_51, .ref a_52, .int v_53, .ref a_54, .ref a_55, .int v_56, .int v_57, .ref a_58, .ref a_59, .ref a_60, .int v_61, .ref a_62, .ref a_63, .ref a_64, .ref a_65, .ref a_66, .ref a_67, .ref a_68, .ref a_69, .ref a_70, .int v_71, .int v_72, .ref a_73]) := by rw [ef_95, up_ne (kd_ne ka_88 ko0 (by decide))]; exact hfo_17
        have hfo_97 : f_95 a_18 = .inl (cI, 1560, .inl g_75) := by rw [ef_95, up_ne (kd_ne ka_88 ka_18 (by decide))]; exact hfo_74
        have hfo_98 : f_95 a_33 = .inl (cG, 20, .inr (.inr (.inr (.inr g_87)))) := by rw [ef_95, up_ne (kd_ne ka_88 ka_33 (by decide))]; exact hfo_86
        have hfr0 : ∀ b, kd b ≠ 579 → kd b ≠ 581 → kd b ≠ 587 → f_95 b = f b := fun b q579 q581 q587 => (congrFun ef_95 b).trans ((up_ne (fun e9 => q579 (by rw [e9]; exact ka_88))).trans (hfr0 b q579 q581 q587))
        have hfo_99 : f_95 a_88 = .inl (cI, 24, .inl (upd g_93 (Int32.toNatClampNeg y_14) x_89)) := by rw [ef_95]; exact up_self
        refine lv_aload_n hx hb dX12_begins_30 rfl (lv_at hl 1 rfl) ?_
        refine tk_getP (D := (dC, dI)) (ci := 12) (v := .ref a_34) (C := RX12) (T := TX12) (N := 56) hx hb hU inlX12 hown hK hP mo0 hfo_96 rfl 16 (by decide) (hU _ wd_176) (fun _ h9 => h9) rfl dX12_begins_31 ?_
        refine lv_iconst (v := 0) hx hb dX12_begins_34 (by decide) ?_
        obtain ⟨g_101, hfo_100, hbg_101⟩ := un_582 (hG _ ma_34) ka_34
        obtain ⟨a_102, hga_102, ma_102, ka_102⟩ := hbg_101 (Int32.toNatClampNeg 0) (in_lt (vp_in_nI (n := 0) (by decide) (by decide)))
        refine tk_aldA hx hb hK hP 4 ma_34 hfo_100 rfl (vp_in_nI (n := 0) (by decide) (by decide)) hga_102 dX12_begins_35 ?_
        refine lv_iload_n hx hb dX12_begins_36 rfl (lv_at hl 0 rfl) ?_
        refine lv_iconst (v := 0) hx hb dX12_begins_37 (by decide) ?_
        obtain ⟨g_104, hfo_103, hbg_104⟩ := un_581 (hG _ ma_102) ka_102
        refine tk_istP hx hb hK hP hD hS 0 ma_102 hfo_103 rfl (vp_in_iff.mpr (by constructor <;> omega)) dX12_begins_38 (fun H locs hP hD hS => ?_)
        obtain ⟨f_106, ef_106⟩ : ∃ y : Nat → va_E, y = va_up f_95 a_102 (.inl (cI, 24, .inl (upd g_104 (Int32.toNatClampNeg y_14) 0))) := ⟨_, rfl⟩
        have hP : va_P (dC, dI) vwCl (va_pl L f_106) H := by rw [ef_106]; exact hP
        have hD : va_D (fun q => q ∈ L) (va_pl L f_106) := by rw [ef_106]; exact hD
        have hG : GI (okc cI cL cZ cR cG cH L kd) kd L f_106 := by rw [ef_106]; exact hG.set a_102 (mk_581 ka_102 ⟨_, rfl, okI_up hbg_104 ⟨i32_lo _, i32_hi _⟩ _⟩)
        have hfo_107 : f_106 o0 = .inr (12, [.ref a_18, .ref a_19, .ref a_20, .int v_21, .ref a_22, .int v_23, .int v_24, .int v_25, .int v_26, .int v_27, .int v_28, .int v_29, .int v_30, .int v_31, .int v_32, .ref a_33, .ref a_34, .ref a_35, .ref a_36, .ref a_37, .ref a_38, .ref a_39, .ref a_40, .int v_41, .int v_42, .int v_43, .int v_44, .int v_45, .ref a_46, .int v_47, .ref a_48, .ref a_49, .int v_50, .int v_51, .ref a_52, .int v_53, .ref a_54, .ref a_55, .int v_56, .int v_57, .ref a_58, .ref a_59, .ref a_60, .int v_61, .ref a_62, .ref a_63, .ref a_64, .ref a_65, .ref a_66, .ref a_67, .ref a_68, .ref a_69, .ref a_70, .int v_71, .int v_72, .ref a_73]) := by rw [ef_106, up_ne (kd_ne ka_102 ko0 (by decide))]; exact hfo_96
        have hfo_108 : f_106 a_18 = .inl (cI, 1560, .inl g_75) := by rw [ef_106, up_ne (kd_ne ka_102 ka_18 (by decide))]; exact hfo_97
        have hfo_109 : f_106 a_33 = .inl (cG, 20, .inr (.inr (.inr (.inr g_87)))) := by rw [ef_106, up_ne (kd_ne ka_102 ka_33 (by decide))]; exact hfo_98
        have hfo_110 : f_106 a_34 = .inl (cG, 20, .inr (.inr (.inr (.inr g_101)))) := by rw [ef_106, up_ne (kd_ne ka_102 ka_34 (by decide))]; exact hfo_100
        have hfr0 : ∀ b, kd b ≠ 579 → kd b ≠ 581 → kd b ≠ 587 → f_106 b = f b := fun b q579 q581 q587 => (congrFun ef_106 b).trans ((up_ne (fun e9 => q581 (by rw [e9]; exact ka_102))).trans (hfr0 b q579 q581 q587))
        have hfo_111 : f_106 a_102 = .inl (cI, 24, .inl (upd g_104 (Int32.toNatClampNeg y_14) 0)) := by rw [ef_106]; exact up_self
        obtain ⟨x_112, ex_112⟩ : ∃ y : Int32, y_14 + 1 = y := ⟨_, rfl⟩
        have hx_112 : x_112.toInt = y_14.toInt + 1 := by rw [← ex_112, ad_I (by rw [ti_1]; omega) (by rw [ti_1]; omega), ti_1]
        have bx_112 : (1 ≤ x_112.toInt ∧ x_112.toInt ≤ 24) := by constructor <;> omega
        refine lv_iinc (v := x_112) (lv' := [(1, .int x_112), (0, .ref o0)]) hx hb dX12_begins_39 hl (k := 0) rfl ex_112 (by decide) rfl (fun ls hl => ?_)
        refine lv_goto (tgt := 2) hx hb dX12_begins_42 (by decide) ?_
        exact ih_hloop_13 x_112 (by constructor <;> omega) f_106 hG _ _ hP hS hD hfr0 (by omega) ls (lv_sub hl [0, 1] rfl)
  exact hloop_13 25 0 (by decide) f hG _ _ hP hS hD hfr0 (by (try rw [ti_0]) <;> omega) ls hl
set_option maxHeartbeats 8000000 in
set_option maxRecDepth 100000 in
theorem s_X12_isMet_k12 (l : Launch) (D : va_G) (cI cL cZ cR cG cH : ClassId) (Z : zT) (kd : Nat → Nat) (L : List Nat) (f : Nat → va_E) (hG : GI (okc cI cL cZ cR cG cH L kd) kd L f) (o0 : Nat) (mo0 : o0 ∈ L) (ko0 : kd o0 = 12) (p1 : Int32) (bp1 : (0 ≤ p1.toInt ∧ p1.toInt ≤ 23)) (p2 : Int32) : mPI l D cI cL cZ cR cG cH Z yX12_isMet cX12_isMet 3 (some .boolean) 2 45 [.ref o0, .int p1, .int p2] L f (fun (r : Int32) (f9 : Nat → va_E) => f = f9 ∧ (0 ≤ r.toInt ∧ r.toInt ≤ 1)) := by
  obtain ⟨dC, dI⟩ := D
  refine Met.ofW (cc := cX12_isMet) (maxL := 3) (ret := (some .boolean)) (by decide) rfl ?_
  intro p e s m args below meth c s₁ B hml hv
  obtain ⟨rfl, hP, hK, hD0, hN, hZ⟩ := hv
  have hx := B.exec
  have hb := B.bytes
  have hr := B.returns
  have hU : ∀ w ∈ wsU, w.before _ s = true := fun w h => atoms_spec (ws := wU yX12_isMet cX12_isMet 3 (some .boolean)) B.pre w (List.mem_cons_of_mem _ h)
  have hown : s.vm.findClass RX12 = some m.cls := findClass_of_methodNamed B.named
  have hlocks := B.notSynchronized
  have hD := pl_in hD0
  have hS : va_S (fun q => q ∈ L) s.heap s.heap [] := va_S.rf
  have hl := lv_entry ([.ref o0, .int p1, .int p2]) (n := 3) (Nat.le_of_ble_eq_true rfl)
  rw [lg_entry_eq]
  generalize (lg_sl ([.ref o0, .int p1, .int p2]) ++ List.replicate (3 - (lg_sl ([.ref o0, .int p1, .int p2])).length) Slot.unset).toArray = ls at hl ⊢
  have hl : lv_has ls 3 [(0, .ref o0), (1, .int p1), (2, .int p2)] := hl
  have bp2 : ((-2147483648) ≤ p2.toInt ∧ p2.toInt ≤ 2147483647) := ⟨i32_lo _, i32_hi _⟩
  refine lv_aload_n hx hb dX12_isMet_0 rfl (lv_at hl 0 rfl) ?_
  refine lv_iload_n hx hb dX12_isMet_1 rfl (lv_at hl 1 rfl) ?_
  refine lv_iconst (v := 1) hx hb dX12_isMet_2 (by decide) ?_
  obtain ⟨a_2, a_3, a_4, v_5, a_6, v_7, v_8, v_9, v_10, v_11, v_12, v_13, v_14, v_15, v_16, a_17, a_18, a_19, a_20, a_21, a_22, a_23, a_24, v_25, v_26, v_27, v_28, v_29, a_30, v_31, a_32, a_33, v_34, v_35, a_36, v_37, a_38, a_39, v_40, v_41, a_42, a_43, a_44, v_45, a_46, a_47, a_48, a_49, a_50, a_51, a_52, a_53, a_54, v_55, v_56, a_57, hfo_1, ⟨ma_2, ka_2⟩, ⟨ma_3, ka_3⟩, ⟨ma_4, ka_4⟩, bv_5, ⟨ma_6, ka_6⟩, bv_7, bv_8, bv_13, bv_14, bv_15, ⟨ma_17, ka_17⟩, ⟨ma_18, ka_18⟩, ⟨ma_19, ka_19⟩, ⟨ma_20, ka_20⟩, ⟨ma_21, ka_21⟩, ⟨ma_22, ka_22⟩, ⟨ma_23, ka_23⟩, ⟨ma_24, ka_24⟩, bv_25, bv_27, bv_29, ⟨ma_30, ka_30⟩, bv_31, ⟨ma_32, ka_32⟩, ⟨ma_33, ka_33⟩, bv_34, ⟨ma_36, ka_36⟩, bv_37, ⟨ma_38, ka_38⟩, ⟨ma_39, ka_39⟩, bv_40, ⟨ma_42, ka_42⟩, ⟨ma_43, ka_43⟩, ⟨ma_44, ka_44⟩, bv_45, ⟨ma_46, ka_46⟩, ⟨ma_47, ka_47⟩, ⟨ma_48, ka_48⟩, ⟨ma_49, ka_49⟩, ⟨ma_50, ka_50⟩, ⟨ma_51, ka_51⟩, ⟨ma_52, ka_52⟩, ⟨ma_53, ka_53⟩, ⟨ma_54, ka_54⟩, bv_55, ⟨ma_57, ka_57⟩⟩ := un_12 (hG _ mo0) ko0
  have bv_9 : ((-2147483648) ≤ v_9.toInt ∧ v_9.toInt ≤ 2147483647) := ⟨i32_lo _, i32_hi _⟩
  have bv_10 : ((-2147483648) ≤ v_10.toInt ∧ v_10.toInt ≤ 2147483647) := ⟨i32_lo _, i32_hi _⟩
  have bv_11 : ((-2147483648) ≤ v_11.toInt ∧ v_11.toInt ≤ 2147483647) := ⟨i32_lo _, i32_hi _⟩
  have bv_12 : ((-2147483648) ≤ v_12.toInt ∧ v_12.toInt ≤ 2147483647) := ⟨i32_lo _, i32_hi _⟩
  have bv_16 : ((-2147483648) ≤ v_16.toInt ∧ v_16.toInt ≤ 2147483647) := ⟨i32_lo _, i32_hi _⟩
  have bv_26 : ((-2147483648) ≤ v_26.toInt ∧ v_26.toInt ≤ 2147483647) := ⟨i32_lo _, i32_hi _⟩
  have bv_28 : ((-2147483648) ≤ v_28.toInt ∧ v_28.toInt ≤ 2147483647) := ⟨i32_lo _, i32_hi _⟩
  have bv_35 : ((-2147483648) ≤ v_35.toInt ∧ v_35.toInt ≤ 2147483647) := ⟨i32_lo _, i32_hi _⟩
  have bv_41 : ((-2147483648) ≤ v_41.toInt ∧ v_41.toInt ≤ 2147483647) := ⟨i32_lo _, i32_hi _⟩
  have bv_56 : ((-2147483648) ≤ v_56.toInt ∧ v_56.toInt ≤ 2147483647) := ⟨i32_lo _, i32_hi _⟩
  refine tk_ViP (As := [.int p1, .int 1]) (rest := []) (n := 2) hx hb hml hown hU hN hZ (s_X12_isAnchored_k12 l (dC, dI) cI cL cZ cR cG cH Z kd L f hG o0 mo0 ko0 p1 (by constructor <;> omega) 1 (by decide)) wd_946 wd_947 wd_948 wd_5 wd_949 (by decide +kernel) ⟨Nat.le_of_ble_eq_true rfl, Nat.le_of_ble_eq_true rfl⟩ hK hP hD hS mo0 hfo_1 12 rfl rfl rfl hl.1 rfl (Nat.le_of_ble_eq_true rfl) dX12_isMet_3 ⟨Nat.le_of_ble_eq_true rfl, Nat.le_of_ble_eq_true rfl⟩ (fun x_58 f_59 H locs hw hP hD hS => ?_)
  obtain ⟨rfl, bx_58⟩ := hw
  refine lv_if_ne (tgt := 23) hx hb dX12_isMet_6 (by decide) (fun c_61 => ?_) (fun c_61 => ?_)
  · skip
    rw [← Int32.toInt_inj, ti_0] at c_61
    refine lv_iconst (v := 0) hx hb dX12_isMet_23 (by decide) ?_
    exact W.zret (v := 0) (ty := .boolean) hx hb hr rfl (fun t ht hW => ⟨⟨0, f, rfl, ⟨rfl, (by decide)⟩, by rw [ht]; exact hP, va_K.moved hW.alike hK, pl_in hD⟩, hS.F ht⟩) hS.2.2 dX12_isMet_24
  · skip
    rw [← Int32.toInt_inj, ti_0] at c_61
    refine lv_aload_n hx hb dX12_isMet_9 rfl (lv_at hl 0 rfl) ?_
    refine lv_iload_n hx hb dX12_isMet_10 rfl (lv_at hl 1 rfl) ?_
    refine lv_iconst (v := 1) hx hb dX12_isMet_11 (by decide) ?_
    refine lv_iload_n hx hb dX12_isMet_12 rfl (lv_at hl 2 rfl) ?_
    refine tk_ViP (As := [.int p1, .int 1, .int p2]) (rest := []) (n := 3) hx hb hml hown hU hN hZ (s_X12_isDone_k12 l (dC, dI) cI cL cZ cR cG cH Z kd L f hG o0 mo0 ko0 p1 (by constructor <;> omega) 1 (by decide) p2) wd_898 wd_899 wd_900 wd_5 wd_901 (by decide +kernel) ⟨Nat.le_of_ble_eq_true rfl, Nat.le_of_ble_eq_true rfl⟩ hK hP hD hS mo0 hfo_1 12 rfl rfl rfl hl.1 rfl (Nat.le_of_ble_eq_true rfl) dX12_isMet_13 ⟨Nat.le_of_ble_eq_true rfl, Nat.le_of_ble_eq_true rfl⟩ (fun x_62 f_63 H locs hw hP hD hS => ?_)
    obtain ⟨rfl, bx_62⟩ := hw
    refine lv_if_eq (tgt := 23) hx hb dX12_isMet_16 (by decide) (fun c_65 => ?_) (fun c_65 => ?_)
    · skip
      rw [← Int32.toInt_inj, ti_0] at c_65
      refine lv_iconst (v := 0) hx hb dX12_isMet_23 (by decide) ?_
      exact W.zret (v := 0) (ty := .boolean) hx hb hr rfl (fun t ht hW => ⟨⟨0, f, rfl, ⟨rfl, (by decide)⟩, by rw [ht]; exact hP, va_K.moved hW.alike hK, pl_in hD⟩, hS.F ht⟩) hS.2.2 dX12_isMet_24
    · skip
      rw [← Int32.toInt_inj, ti_0] at c_65
      refine lv_iconst (v := 1) hx hb dX12_isMet_19 (by decide) ?_
      refine lv_goto (tgt := 24) hx hb dX12_isMet_20 (by decide) ?_
      exact W.zret (v := 1) (ty := .boolean) hx hb hr rfl (fun t ht hW => ⟨⟨1, f, rfl, ⟨rfl, (by decide)⟩, by rw [ht]; exact hP, va_K.moved hW.alike hK, pl_in hD⟩, hS.F ht⟩) hS.2.2 dX12_isMet_24
set_option maxHeartbeats 8000000 in
set_option maxRecDepth 100000 in
theorem s_X12_needsGoOn_k12 (l : Launch) (D : va_G) (cI cL cZ cR cG cH : ClassId) (Z : zT) (kd : Nat → Nat) (L : List Nat) (f : Nat → va_E) (hG : GI (okc cI cL cZ cR cG cH L kd) kd L f) (o0 : Nat) (mo0 : o0 ∈ L) (ko0 : kd o0 = 12) (p1 : Int32) (bp1 : (0 ≤ p1.toInt ∧ p1.toInt ≤ 13)) (p2 : Int32) : mPI l D cI cL cZ cR cG cH Z yX12_needsGoOn cX12_needsGoOn 10 (some .boolean) 3 76 [.ref o0, .int p1, .int p2] L f (fun (r : Int32) (f9 : Nat → va_E) => GI (okc cI cL cZ cR cG cH L kd) kd L f9 ∧ (0 ≤ r.toInt ∧ r.toInt ≤ 1) ∧ (∀ b, kd b ≠ 583 → kd b ≠ 585 → kd b ≠ 587 → f9 b = f b) ∧ (∀ b9 g9, fldR (f9 o0) 19 = some b9 → f9 b9 = .inl (cI, 20, .inl g9) → r.toInt = 0 ∨ ∀ j : Nat, (j : Int) = p1.toInt + 1 → (g9 j).toInt ≤ 8 * p1.toInt)) := by
  obtain ⟨dC, dI⟩ := D
  refine Met.ofW (cc := cX12_needsGoOn) (maxL := 10) (ret := (some .boolean)) (by decide) rfl ?_
  intro p e s m args below meth c s₁ B hml hv
  obtain ⟨rfl, hP, hK, hD0, hN, hZ⟩ := hv
  have hx := B.exec
  have hb := B.bytes
  have hr := B.returns
  have hU : ∀ w ∈ wsU, w.before _ s = true := fun w h => atoms_spec (ws := wU yX12_needsGoOn cX12_needsGoOn 10 (some .boolean)) B.pre w (List.mem_cons_of_mem _ h)
  have hown : s.vm.findClass RX12 = some m.cls := findClass_of_methodNamed B.named
  have hlocks := B.notSynchronized
  have hD := pl_in hD0
  have hS : va_S (fun q => q ∈ L) s.heap s.heap [] := va_S.rf
  have hl := lv_entry ([.ref o0, .int p1, .int p2]) (n := 10) (Nat.le_of_ble_eq_true rfl)
  rw [lg_entry_eq]
  generalize (lg_sl ([.ref o0, .int p1, .int p2]) ++ List.replicate (10 - (lg_sl ([.ref o0, .int p1, .int p2])).length) Slot.unset).toArray = ls at hl ⊢
  have hl : lv_has ls 10 [(0, .ref o0), (1, .int p1), (2, .int p2)] := hl
  have bp2 : ((-2147483648) ≤ p2.toInt ∧ p2.toInt ≤ 2147483647) := ⟨i32_lo _, i32_hi _⟩
  have hfr0 : ∀ b, kd b ≠ 583 → kd b ≠ 585 → kd b ≠ 587 → f b = f b := fun _ _ _ _ => rfl
  obtain ⟨a_2, a_3, a_4, v_5, a_6, v_7, v_8, v_9, v_10, v_11, v_12, v_13, v_14, v_15, v_16, a_17, a_18, a_19, a_20, a_21, a_22, a_23, a_24, v_25, v_26, v_27, v_28, v_29, a_30, v_31, a_32, a_33, v_34, v_35, a_36, v_37, a_38, a_39, v_40, v_41, a_42, a_43, a_44, v_45, a_46, a_47, a_48, a_49, a_50, a_51, a_52, a_53, a_54, v_55, v_56, a_57, hfo_1, ⟨ma_2, ka_2⟩, ⟨ma_3, ka_3⟩, ⟨ma_4, ka_4⟩, bv_5, ⟨ma_6, ka_6⟩, bv_7, bv_8, bv_13, bv_14, bv_15, ⟨ma_17, ka_17⟩, ⟨ma_18, ka_18⟩, ⟨ma_19, ka_19⟩, ⟨ma_20, ka_20⟩, ⟨ma_21, ka_21⟩, ⟨ma_22, ka_22⟩, ⟨ma_23, ka_23⟩, ⟨ma_24, ka_24⟩, bv_25, bv_27, bv_29, ⟨ma_30, ka_30⟩, bv_31, ⟨ma_32, ka_32⟩, ⟨ma_33, ka_33⟩, bv_34, ⟨ma_36, ka_36⟩, bv_37, ⟨ma_38, ka_38⟩, ⟨ma_39, ka_39⟩, bv_40, ⟨ma_42, ka_42⟩, ⟨ma_43, ka_43⟩, ⟨ma_44, ka_44⟩, bv_45, ⟨ma_46, ka_46⟩, ⟨ma_47, ka_47⟩, ⟨ma_48, ka_48⟩, ⟨ma_49, ka_49⟩, ⟨ma_50, ka_50⟩, ⟨ma_51, ka_51⟩, ⟨ma_52, ka_52⟩, ⟨ma_53, ka_53⟩, ⟨ma_54, ka_54⟩, bv_55, ⟨ma_57, ka_57⟩⟩ := un_12 (hG _ mo0) ko0
  have bv_9 : ((-2147483648) ≤ v_9.toInt ∧ v_9.toInt ≤ 2147483647) := ⟨i32_lo _, i32_hi _⟩
  have bv_10 : ((-2147483648) ≤ v_10.toInt ∧ v_10.toInt ≤ 2147483647) := ⟨i32_lo _, i32_hi _⟩
  have bv_11 : ((-2147483648) ≤ v_11.toInt ∧ v_11.toInt ≤ 2147483647) := ⟨i32_lo _, i32_hi _⟩
  have bv_12 : ((-2147483648) ≤ v_12.toInt ∧ v_12.toInt ≤ 2147483647) := ⟨i32_lo _, i32_hi _⟩
  have bv_16 : ((-2147483648) ≤ v_16.toInt ∧ v_16.toInt ≤ 2147483647) := ⟨i32_lo _, i32_hi _⟩
  have bv_26 : ((-2147483648) ≤ v_26.toInt ∧ v_26.toInt ≤ 2147483647) := ⟨i32_lo _, i32_hi _⟩
  have bv_28 : ((-2147483648) ≤ v_28.toInt ∧ v_28.toInt ≤ 2147483647) := ⟨i32_lo _, i32_hi _⟩
  have bv_35 : ((-2147483648) ≤ v_35.toInt ∧ v_35.toInt ≤ 2147483647) := ⟨i32_lo _, i32_hi _⟩
  have bv_41 : ((-2147483648) ≤ v_41.toInt ∧ v_41.toInt ≤ 2147483647) := ⟨i32_lo _, i32_hi _⟩
  have bv_56 : ((-2147483648) ≤ v_56.toInt ∧ v_56.toInt ≤ 2147483647) := ⟨i32_lo _, i32_hi _⟩
  obtain ⟨g_59, hfo_58, hbg_59⟩ := un_587 (hG _ ma_21) ka_21
  obtain ⟨x_60, ex_60⟩ : ∃ y : Int32, y = g_59 (Int32.toNatClampNeg p1) := ⟨_, rfl⟩
  have hx_60 : 0 ≤ x_60.toInt ∧ x_60.toInt ≤ 8 * p1.toInt := by have hc9 := cl_I (i := p1) (by omega); have h8 := hbg_59 (Int32.toNatClampNeg p1); rw [ex_60]; constructor <;> omega
  have bx_60 : (0 ≤ x_60.toInt ∧ x_60.toInt ≤ 104) := by constructor <;> omega
  refine lv_iconst (v := 0) hx hb dX12_needsGoOn_0 (by decide) ?_
  refine lv_istore_n (lv' := [(3, .int 0), (0, .ref o0), (1, .int p1), (2, .int p2)]) hx hb dX12_needsGoOn_1 rfl hl (by decide) rfl (fun ls hl => ?_)
  refine lv_iconst (v := 0) hx hb dX12_needsGoOn_2 (by decide) ?_
  refine lv_istore (lv' := [(4, .int 0), (3, .int 0), (0, .ref o0), (1, .int p1), (2, .int p2)]) hx hb dX12_needsGoOn_3 hl (by decide) rfl (fun ls hl => ?_)
  have hloop_68 : ∀ (n : Nat), ∀ (y_69 : Int32), (0 ≤ y_69.toInt ∧ y_69.toInt ≤ 104) → ∀ (y_70 : Int32), (0 ≤ y_70.toInt ∧ y_70.toInt ≤ 104) → ∀ (f_72 : Nat → va_E), GI (okc cI cL cZ cR cG cH L kd) kd L f_72 → ∀ (H : Heap) (locs : List Loc), va_P (dC, dI) vwCl (va_pl L f_72) H → va_S (fun q => q ∈ L) s.heap H locs → va_D (fun q => q ∈ L) (va_pl L f_72) → (∀ b, kd b ≠ 583 → kd b ≠ 585 → kd b ≠ 587 → f_72 b = f b) → (f_72 o0 = .inr (12, [.ref a_2, .ref a_3, .ref a_4, .int v_5, .ref a_6, .int v_7, .int v_8, .int v_9, .int v_10, .int v_11, .int v_12, .int v_13, .int v_14, .int v_15, .int v_16, .ref a_17, .ref a_18, .ref a_19, .ref a_20, .ref a_21, .ref a_22, .ref a_23, .ref a_24, .int v_25, .int v_26, .int v_27, .int v_28, .int v_29, .ref a_30, .int v_31, .ref a_32, .ref a_33, .int v_34, .int v_35, .ref a_36, .int v_37, .ref a_38, .ref a_39, .int v_40, .int v_41, .ref a_42, .ref a_43, .ref a_44, .int v_45, .ref a_46, .ref a_47, .ref a_48, .ref a_49, .ref a_50, .ref a_51, .ref a_52, .ref a_53, .ref a_54, .int v_55, .int v_56, .ref a_57])) → (f_72 a_21 = .inl (cI, 20, .inl g_59)) → (y_70.toInt ≤ y_69.toInt ∧ y_69.toInt ≤ x_60.toInt) → 104 - y_69.toInt < (n : Int) → ∀ (ls : Array Slot), lv_has ls 10 [(4, .int y_69), (3, .int y_70), (0, .ref o0), (1, .int p1), (2, .int p2)] → W p l e (headSpec (wU yX12_needsGoOn cX12_needsGoOn 10 (some .boolean)) { frames := 3, cells := 0, slots := 0, locals := 76 }).room s m [.ref o0, .int p1, .int p2].toArray below meth c H locs 0 0 (MQ below (va_Qi (fun (r : Int32) (f9 : Nat → va_E) => GI (okc cI cL cZ cR cG cH L kd) kd L f9 ∧ (0 ≤ r.toInt ∧ r.toInt ≤ 1) ∧ (∀ b, kd b ≠ 583 → kd b ≠ 585 → kd b ≠ 587 → f9 b = f b) ∧ (∀ b9 g9, fldR (f9 o0) 19 = some b9 → f9 b9 = .inl (cI, 20, .inl g9) → r.toInt = 0 ∨ ∀ j : Nat, (j : Int) = p1.toInt + 1 → (g9 j).toInt ≤ 8 * p1.toInt)) (qP (dC, dI) cI cL cZ cR cG cH L) (fun q => q ∈ L)) [.ref o0, .int p1, .int p2].toArray s 0 0 (fun q => q ∈ L)) (F0 m 5 ls []) := by
    intro n
    induction n with
    | zero => intro y_69 by_69 y_70 by_70 f_72 hG H locs hP hS hD hfr0 hfo_73 hfo_74 hrelhloop_68_0 hmuhloop_68 ls hl; exfalso; omega
    | succ n ih_hloop_68 =>
      intro y_69 by_69 y_70 by_70 f_72 hG H locs hP hS hD hfr0 hfo_73 hfo_74 hrelhloop_68_0 hmuhloop_68 ls hl
      refine lv_iload hx hb dX12_needsGoOn_5 (lv_at hl 0 rfl) ?_
      refine lv_aload_n hx hb dX12_needsGoOn_7 rfl (lv_at hl 2 rfl) ?_
      refine tk_getP (D := (dC, dI)) (ci := 12) (v := .ref a_21) (C := RX12) (T := TX12) (N := 56) hx hb hU inlX12 hown hK hP mo0 hfo_73 rfl 19 (by decide) (hU _ wd_179) (fun _ h9 => h9) rfl dX12_needsGoOn_8 ?_
      refine lv_iload_n hx hb dX12_needsGoOn_11 rfl (lv_at hl 3 rfl) ?_
      refine tk_ildP hx hb hK hP 0 ma_21 hfo_74 rfl (vp_in_iff.mpr (by constructor <;> omega)) dX12_needsGoOn_12 ?_
      refine tk_topi (y := x_60) ex_60.symm ?_
      refine lv_icmp_ge (tgt := 191) hx hb dX12_needsGoOn_13 (by decide) (fun c_75 => ?_) (fun c_75 => ?_)
      · skip
        rw [Int32.le_iff_toInt_le] at c_75
        refine lv_aload_n hx hb dX12_needsGoOn_191 rfl (lv_at hl 2 rfl) ?_
        refine tk_getP (D := (dC, dI)) (ci := 12) (v := .ref a_21) (C := RX12) (T := TX12) (N := 56) hx hb hU inlX12 hown hK hP mo0 hfo_73 rfl 19 (by decide) (hU _ wd_179) (fun _ h9 => h9) rfl dX12_needsGoOn_192 ?_
        refine lv_iload_n hx hb dX12_needsGoOn_195 rfl (lv_at hl 3 rfl) ?_
        refine lv_iconst (v := 1) hx hb dX12_needsGoOn_196 (by decide) ?_
        refine lv_iadd hx hb dX12_needsGoOn_197 ?_
        refine lv_topi (fun x_76 ex_76 => ?_)
        have hx_76 : x_76.toInt = p1.toInt + 1 := by rw [ex_76, ad_I (by rw [ti_1]; omega) (by rw [ti_1]; omega), ti_1]
        have bx_76 : (1 ≤ x_76.toInt ∧ x_76.toInt ≤ 14) := by constructor <;> omega
        refine lv_iload_n hx hb dX12_needsGoOn_198 rfl (lv_at hl 1 rfl) ?_
        refine tk_istP hx hb hK hP hD hS 0 ma_21 hfo_74 rfl (vp_in_iff.mpr (by constructor <;> omega)) dX12_needsGoOn_199 (fun H locs hP hD hS => ?_)
        have hc9 := cl_I (i := x_76) (by omega)
        obtain ⟨g_77, eqg_77⟩ : ∃ y : Nat → Int32, y = upd g_59 (Int32.toNatClampNeg x_76) y_70 := ⟨_, rfl⟩
        rw [← eqg_77] at hP hD
        have hbg_77 : ∀ j : Nat, 0 ≤ (g_77 j).toInt ∧ (g_77 j).toInt ≤ 8 * (j : Int) := by rw [eqg_77]; exact (by intro j; by_cases hj : j = Int32.toNatClampNeg x_76; (· subst hj; rw [pk_us]; constructor <;> omega); (· rw [pk_un hj]; exact hbg_59 j))
        obtain ⟨f_79, ef_79⟩ : ∃ y : Nat → va_E, y = va_up f_72 a_21 (.inl (cI, 20, .inl g_77)) := ⟨_, rfl⟩
        have hP : va_P (dC, dI) vwCl (va_pl L f_79) H := by rw [ef_79]; exact hP
        have hD : va_D (fun q => q ∈ L) (va_pl L f_79) := by rw [ef_79]; exact hD
        have hG : GI (okc cI cL cZ cR cG cH L kd) kd L f_79 := by rw [ef_79]; exact hG.set a_21 (mk_587 ka_21 ⟨_, rfl, hbg_77⟩)
        have hfo_80 : f_79 o0 = .inr (12, [.ref a_2, .ref a_3, .ref a_4, .int v_5, .ref a_6, .int v_7, .int v_8, .int v_9, .int v_10, .int v_11, .int v_12, .int v_13, .int v_14, .int v_15, .int v_16, .ref a_17, .ref a_18, .ref a_19, .ref a_20, .ref a_21, .ref a_22, .ref a_23, .ref a_24, .int v_25, .int v_26, .int v_27, .int v_28, .int v_29, .ref a_30, .int v_31, .ref a_32, .ref a_33, .int v_34, .int v_35, .ref a_36, .int v_37, .ref a_38, .ref a_39, .int v_40, .int v_41, .ref a_42, .ref a_43, .ref a_44, .int v_45, .ref a_46, .ref a_47, .ref a_48, .ref a_49, .ref a_50, .ref a_51, .ref a_52, .ref a_53, .ref a_54, .int v_55, .int v_56, .ref a_57]) := by rw [ef_79, up_ne (kd_ne ka_21 ko0 (by decide))]; exact hfo_73
        have hfr0 : ∀ b, kd b ≠ 583 → kd b ≠ 585 → kd b ≠ 587 → f_79 b = f b := fun b q583 q585 q587 => (congrFun ef_79 b).trans ((up_ne (fun e9 => q587 (by rw [e9]; exact ka_21))).trans (hfr0 b q583 q585 q587))
        have hfo_81 : f_79 a_21 = .inl (cI, 20, .inl g_77) := by rw [ef_79]; exact up_self
        have ql_82 : y_70 = g_77 (Int32.toNatClampNeg x_76) := by rw [eqg_77, pk_us]
        refine lv_iconst (v := 1) hx hb dX12_needsGoOn_200 (by decide) ?_
        exact W.zret (v := 1) (ty := .boolean) hx hb hr rfl (fun t ht hW => ⟨⟨1, f_79, rfl, ⟨hG, (by decide), hfr0, (fun b9 g9 h1 h2 => Or.inr (by rw [hfo_80] at h1; obtain rfl := Option.some.inj h1; rw [hfo_81] at h2; cases h2; intro j hj; have hc9 := cl_I (i := x_76) (by omega); rw [eqg_77, show j = Int32.toNatClampNeg x_76 by omega, pk_us]; omega))⟩, by rw [ht]; exact hP, va_K.moved hW.alike hK, pl_in hD⟩, hS.F ht⟩) hS.2.2 dX12_needsGoOn_201
      · skip
        rw [Int32.le_iff_toInt_le] at c_75
        refine lv_aload_n hx hb dX12_needsGoOn_16 rfl (lv_at hl 2 rfl) ?_
        refine tk_getP (D := (dC, dI)) (ci := 12) (v := .ref a_19) (C := RX12) (T := TX12) (N := 56) hx hb hU inlX12 hown hK hP mo0 hfo_73 rfl 17 (by decide) (hU _ wd_177) (fun _ h9 => h9) rfl dX12_needsGoOn_17 ?_
        refine lv_iload_n hx hb dX12_needsGoOn_20 rfl (lv_at hl 3 rfl) ?_
        obtain ⟨g_84, hfo_83, hbg_84⟩ := un_584 (hG _ ma_19) ka_19
        obtain ⟨a_85, hga_85, ma_85, ka_85⟩ := hbg_84 (Int32.toNatClampNeg p1) (in_lt (vp_in_iff.mpr (by constructor <;> omega)))
        refine tk_aldA hx hb hK hP 4 ma_19 hfo_83 rfl (vp_in_iff.mpr (by constructor <;> omega)) hga_85 dX12_needsGoOn_21 ?_
        refine lv_iload hx hb dX12_needsGoOn_22 (lv_at hl 0 rfl) ?_
        obtain ⟨g_87, hfo_86, hbg_87⟩ := un_583 (hG _ ma_85) ka_85
        refine tk_ildP hx hb hK hP 0 ma_85 hfo_86 rfl (vp_in_iff.mpr (by constructor <;> omega)) dX12_needsGoOn_24 ?_
        refine lv_topi (fun x_88 ex_88 => ?_)
        have bx_88 : (0 ≤ x_88.toInt ∧ x_88.toInt ≤ 7) := by rw [ex_88]; exact hbg_87 _
        refine lv_istore (lv' := [(5, .int x_88), (4, .int y_69), (3, .int y_70), (0, .ref o0), (1, .int p1), (2, .int p2)]) hx hb dX12_needsGoOn_25 hl (by decide) rfl (fun ls hl => ?_)
        refine lv_iconst (v := 0) hx hb dX12_needsGoOn_27 (by decide) ?_
        refine lv_istore (lv' := [(6, .int 0), (5, .int x_88), (4, .int y_69), (3, .int y_70), (0, .ref o0), (1, .int p1), (2, .int p2)]) hx hb dX12_needsGoOn_28 hl (by decide) rfl (fun ls hl => ?_)
        refine lv_iconst (v := 0) hx hb dX12_needsGoOn_30 (by decide) ?_
        refine lv_istore (lv' := [(7, .int 0), (6, .int 0), (5, .int x_88), (4, .int y_69), (3, .int y_70), (0, .ref o0), (1, .int p1), (2, .int p2)]) hx hb dX12_needsGoOn_31 hl (by decide) rfl (fun ls hl => ?_)
        refine lv_iconst (v := 0) hx hb dX12_needsGoOn_33 (by decide) ?_
        refine lv_istore (lv' := [(8, .int 0), (7, .int 0), (6, .int 0), (5, .int x_88), (4, .int y_69), (3, .int y_70), (0, .ref o0), (1, .int p1), (2, .int p2)]) hx hb dX12_needsGoOn_34 hl (by decide) rfl (fun ls hl => ?_)
        have hloop_119 : ∀ (n : Nat), ∀ (y_120 : Int32), (0 ≤ y_120.toInt ∧ y_120.toInt ≤ 3) → ∀ (y_121 : Int32), ((-2147483648) ≤ y_121.toInt ∧ y_121.toInt ≤ 2147483647) → ∀ (y_122 : Int32), (0 ≤ y_122.toInt ∧ y_122.toInt ≤ 1) → ∀ (f_124 : Nat → va_E), GI (okc cI cL cZ cR cG cH L kd) kd L f_124 → ∀ (H : Heap) (locs : List Loc), va_P (dC, dI) vwCl (va_pl L f_124) H → va_S (fun q => q ∈ L) s.heap H locs → va_D (fun q => q ∈ L) (va_pl L f_124) → (∀ b, kd b ≠ 583 → kd b ≠ 585 → kd b ≠ 587 → f_124 b = f b) → (f_124 o0 = .inr (12, [.ref a_2, .ref a_3, .ref a_4, .int v_5, .ref a_6, .int v_7, .int v_8, .int v_9, .int v_10, .int v_11, .int v_12, .int v_13, .int v_14, .int v_15, .int v_16, .ref a_17, .ref a_18, .ref a_19, .ref a_20, .ref a_21, .ref a_22, .ref a_23, .ref a_24, .int v_25, .int v_26, .int v_27, .int v_28, .int v_29, .ref a_30, .int v_31, .ref a_32, .ref a_33, .int v_34, .int v_35, .ref a_36, .int v_37, .ref a_38, .ref a_39, .int v_40, .int v_41, .ref a_42, .ref a_43, .ref a_44, .int v_45, .ref a_46, .ref a_47, .ref a_48, .ref a_49, .ref a_50, .ref a_51, .ref a_52, .ref a_53, .ref a_54, .int v_55, .int v_56, .ref a_57])) → (f_124 a_21 = .inl (cI, 20, .inl g_59)) → (f_124 a_19 = .inl (cG, 20, .inr (.inr (.inr (.inr g_84))))) → (f_124 a_85 = .inl (cI, 160, .inl g_87)) → 3 - y_120.toInt < (n : Int) → ∀ (ls : Array Slot), lv_has ls 10 [(8, .int y_120), (7, .int y_121), (6, .int y_122), (5, .int x_88), (4, .int y_69), (3, .int y_70), (0, .ref o0), (1, .int p1), (2, .int p2)] → W p l e (headSpec (wU yX12_needsGoOn cX12_needsGoOn 10 (some .boolean)) { frames := 3, cells := 0, slots := 0, locals := 76 }).room s m [.ref o0, .int p1, .int p2].toArray below meth c H locs 0 0 (MQ below (va_Qi (fun (r : Int32) (f9 : Nat → va_E) => GI (okc cI cL cZ cR cG cH L kd) kd L f9 ∧ (0 ≤ r.toInt ∧ r.toInt ≤ 1) ∧ (∀ b, kd b ≠ 583 → kd b ≠ 585 → kd b ≠ 587 → f9 b = f b) ∧ (∀ b9 g9, fldR (f9 o0) 19 = some b9 → f9 b9 = .inl (cI, 20, .inl g9) → r.toInt = 0 ∨ ∀ j : Nat, (j : Int) = p1.toInt + 1 → (g9 j).toInt ≤ 8 * p1.toInt)) (qP (dC, dI) cI cL cZ cR cG cH L) (fun q => q ∈ L)) [.ref o0, .int p1, .int p2].toArray s 0 0 (fun q => q ∈ L)) (F0 m 36 ls []) := by
          intro n
          induction n with
          | zero => intro y_120 by_120 y_121 by_121 y_122 by_122 f_124 hG H locs hP hS hD hfr0 hfo_125 hfo_126 hfo_127 hfo_128 hmuhloop_119 ls hl; exfalso; omega
          | succ n ih_hloop_119 =>
            intro y_120 by_120 y_121 by_121 y_122 by_122 f_124 hG H locs hP hS hD hfr0 hfo_125 hfo_126 hfo_127 hfo_128 hmuhloop_119 ls hl
            refine lv_iload hx hb dX12_needsGoOn_36 (lv_at hl 0 rfl) ?_
            refine lv_iconst (v := 3) hx hb dX12_needsGoOn_38 (by decide) ?_
            refine lv_icmp_ge (tgt := 155) hx hb dX12_needsGoOn_39 (by decide) (fun c_129 => ?_) (fun c_129 => ?_)
            · skip
              rw [Int32.le_iff_toInt_le, ti_3] at c_129
              refine lv_iload hx hb dX12_needsGoOn_155 (lv_at hl 2 rfl) ?_
              refine lv_if_eq (tgt := 163) hx hb dX12_needsGoOn_157 (by decide) (fun c_130 => ?_) (fun c_130 => ?_)
              · skip
                rw [← Int32.toInt_inj, ti_0] at c_130
                refine lv_iload hx hb dX12_needsGoOn_163 (lv_at hl 1 rfl) ?_
                refine lv_if_ne (tgt := 170) hx hb dX12_needsGoOn_165 (by decide) (fun c_131 => ?_) (fun c_131 => ?_)
                · skip
                  rw [← Int32.toInt_inj, ti_0] at c_131
                  refine lv_aload_n hx hb dX12_needsGoOn_170 rfl (lv_at hl 6 rfl) ?_
                  refine tk_getP (D := (dC, dI)) (ci := 12) (v := .ref a_19) (C := RX12) (T := TX12) (N := 56) hx hb hU inlX12 hown hK hP mo0 hfo_125 rfl 17 (by decide) (hU _ wd_177) (fun _ h9 => h9) rfl dX12_needsGoOn_171 ?_
                  refine lv_iload_n hx hb dX12_needsGoOn_174 rfl (lv_at hl 7 rfl) ?_
                  refine lv_iconst (v := 1) hx hb dX12_needsGoOn_175 (by decide) ?_
                  refine lv_iadd hx hb dX12_needsGoOn_176 ?_
                  refine lv_topi (fun x_132 ex_132 => ?_)
                  have hx_132 : x_132.toInt = p1.toInt + 1 := by rw [ex_132, ad_I (by rw [ti_1]; omega) (by rw [ti_1]; omega), ti_1]
                  have bx_132 : (1 ≤ x_132.toInt ∧ x_132.toInt ≤ 14) := by constructor <;> omega
                  obtain ⟨a_133, hga_133, ma_133, ka_133⟩ := hbg_84 (Int32.toNatClampNeg x_132) (in_lt (vp_in_iff.mpr (by constructor <;> omega)))
                  refine tk_aldA hx hb hK hP 4 ma_19 hfo_127 rfl (vp_in_iff.mpr (by constructor <;> omega)) hga_133 dX12_needsGoOn_177 ?_
                  refine lv_iload_n hx hb dX12_needsGoOn_178 rfl (lv_at hl 5 rfl) ?_
                  refine lv_iload hx hb dX12_needsGoOn_179 (lv_at hl 3 rfl) ?_
                  obtain ⟨g_135, hfo_134, hbg_135⟩ := un_583 (hG _ ma_133) ka_133
                  refine tk_istP hx hb hK hP hD hS 0 ma_133 hfo_134 rfl (vp_in_iff.mpr (by constructor <;> omega)) dX12_needsGoOn_181 (fun H locs hP hD hS => ?_)
                  obtain ⟨f_137, ef_137⟩ : ∃ y : Nat → va_E, y = va_up f_124 a_133 (.inl (cI, 160, .inl (upd g_135 (Int32.toNatClampNeg y_70) x_88))) := ⟨_, rfl⟩
                  have hP : va_P (dC, dI) vwCl (va_pl L f_137) H := by rw [ef_137]; exact hP
                  have hD : va_D (fun q => q ∈ L) (va_pl L f_137) := by rw [ef_137]; exact hD
                  have hG : GI (okc cI cL cZ cR cG cH L kd) kd L f_137 := by rw [ef_137]; exact hG.set a_133 (mk_583 ka_133 ⟨_, rfl, okI_up hbg_135 (by constructor <;> omega) _⟩)
                  have hfo_138 : f_137 o0 = .inr (12, [.ref a_2, .ref a_3, .ref a_4, .int v_5, .ref a_6, .int v_7, .int v_8, .int v_9, .int v_10, .int v_11, .int v_12, .int v_13, .int v_14, .int v_15, .int v_16, .ref a_17, .ref a_18, .ref a_19, .ref a_20, .ref a_21, .ref a_22, .ref a_23, .ref a_24, .int v_25, .int v_26, .int v_27, .int v_28, .int v_29, .ref a_30, .int v_31, .ref a_32, .ref a_33, .int v_34, .int v_35, .ref a_36, .int v_37, .ref a_38, .ref a_39, .int v_40, .int v_41, .ref a_42, .ref a_43, .ref a_44, .int v_45, .ref a_46, .ref a_47, .ref a_48, .ref a_49, .ref a_50, .ref a_51, .ref a_52, .ref a_53, .ref a_54, .int v_55, .int v_56, .ref a_57]) := by rw [ef_137, up_ne (kd_ne ka_133 ko0 (by decide))]; exact hfo_125
                  have hfo_139 : f_137 a_21 = .inl (cI, 20, .inl g_59) := by rw [ef_137, up_ne (kd_ne ka_133 ka_21 (by decide))]; exact hfo_126
                  have hfo_140 : f_137 a_19 = .inl (cG, 20, .inr (.inr (.inr (.inr g_84)))) := by rw [ef_137, up_ne (kd_ne ka_133 ka_19 (by decide))]; exact hfo_127
                  have hfr0 : ∀ b, kd b ≠ 583 → kd b ≠ 585 → kd b ≠ 587 → f_137 b = f b := fun b q583 q585 q587 => (congrFun ef_137 b).trans ((up_ne (fun e9 => q583 (by rw [e9]; exact ka_133))).trans (hfr0 b q583 q585 q587))
                  have hfo_141 : f_137 a_133 = .inl (cI, 160, .inl (upd g_135 (Int32.toNatClampNeg y_70) x_88)) := by rw [ef_137]; exact up_self
                  obtain ⟨x_142, ex_142⟩ : ∃ y : Int32, y_70 + 1 = y := ⟨_, rfl⟩
                  have hx_142 : x_142.toInt = y_70.toInt + 1 := by rw [← ex_142, ad_I (by rw [ti_1]; omega) (by rw [ti_1]; omega), ti_1]
                  have bx_142 : (1 ≤ x_142.toInt ∧ x_142.toInt ≤ 105) := by constructor <;> omega
                  refine lv_iinc (v := x_142) (lv' := [(3, .int x_142), (8, .int y_120), (7, .int y_121), (6, .int y_122), (5, .int x_88), (4, .int y_69), (0, .ref o0), (1, .int p1), (2, .int p2)]) hx hb dX12_needsGoOn_182 hl (k := 5) rfl ex_142 (by decide) rfl (fun ls hl => ?_)
                  obtain ⟨x_143, ex_143⟩ : ∃ y : Int32, y_69 + 1 = y := ⟨_, rfl⟩
                  have hx_143 : x_143.toInt = y_69.toInt + 1 := by rw [← ex_143, ad_I (by rw [ti_1]; omega) (by rw [ti_1]; omega), ti_1]
                  have bx_143 : (1 ≤ x_143.toInt ∧ x_143.toInt ≤ 104) := by constructor <;> omega
                  refine lv_iinc (v := x_143) (lv' := [(4, .int x_143), (3, .int x_142), (8, .int y_120), (7, .int y_121), (6, .int y_122), (5, .int x_88), (0, .ref o0), (1, .int p1), (2, .int p2)]) hx hb dX12_needsGoOn_185 hl (k := 5) rfl ex_143 (by decide) rfl (fun ls hl => ?_)
                  refine lv_goto (tgt := 5) hx hb dX12_needsGoOn_188 (by decide) ?_
                  exact ih_hloop_68 x_143 (by constructor <;> omega) x_142 (by constructor <;> omega) f_137 hG _ _ hP hS hD hfr0 hfo_138 hfo_139 (by omega) (by omega) ls (lv_sub hl [0, 1, 6, 7, 8] rfl)
                · skip
                  rw [← Int32.toInt_inj, ti_0] at c_131
                  refine lv_iconst (v := 0) hx hb dX12_needsGoOn_168 (by decide) ?_
                  exact W.zret (v := 0) (ty := .boolean) hx hb hr rfl (fun t ht hW => ⟨⟨0, f_124, rfl, ⟨hG, (by decide), hfr0, (fun _ _ _ _ => Or.inl (by decide))⟩, by rw [ht]; exact hP, va_K.moved hW.alike hK, pl_in hD⟩, hS.F ht⟩) hS.2.2 dX12_needsGoOn_169
              · skip
                rw [← Int32.toInt_inj, ti_0] at c_130
                refine lv_goto (tgt := 185) hx hb dX12_needsGoOn_160 (by decide) ?_
                obtain ⟨x_144, ex_144⟩ : ∃ y : Int32, y_69 + 1 = y := ⟨_, rfl⟩
                have hx_144 : x_144.toInt = y_69.toInt + 1 := by rw [← ex_144, ad_I (by rw [ti_1]; omega) (by rw [ti_1]; omega), ti_1]
                have bx_144 : (1 ≤ x_144.toInt ∧ x_144.toInt ≤ 104) := by constructor <;> omega
                refine lv_iinc (v := x_144) (lv' := [(4, .int x_144), (8, .int y_120), (7, .int y_121), (6, .int y_122), (5, .int x_88), (3, .int y_70), (0, .ref o0), (1, .int p1), (2, .int p2)]) hx hb dX12_needsGoOn_185 hl (k := 4) rfl ex_144 (by decide) rfl (fun ls hl => ?_)
                refine lv_goto (tgt := 5) hx hb dX12_needsGoOn_188 (by decide) ?_
                exact ih_hloop_68 x_144 (by constructor <;> omega) y_70 (by constructor <;> omega) f_124 hG _ _ hP hS hD hfr0 hfo_125 hfo_126 (by omega) (by omega) ls (lv_sub hl [0, 5, 6, 7, 8] rfl)
            · skip
              rw [Int32.le_iff_toInt_le, ti_3] at c_129
              refine lv_aload_n hx hb dX12_needsGoOn_42 rfl (lv_at hl 6 rfl) ?_
              refine tk_getP (D := (dC, dI)) (ci := 12) (v := .ref a_20) (C := RX12) (T := TX12) (N := 56) hx hb hU inlX12 hown hK hP mo0 hfo_125 rfl 18 (by decide) (hU _ wd_178) (fun _ h9 => h9) rfl dX12_needsGoOn_43 ?_
              refine lv_iload_n hx hb dX12_needsGoOn_46 rfl (lv_at hl 7 rfl) ?_
              obtain ⟨g_146, hfo_145, hbg_146⟩ := un_586 (hG _ ma_20) ka_20
              obtain ⟨a_147, hga_147, ma_147, ka_147⟩ := hbg_146 (Int32.toNatClampNeg p1) (in_lt (vp_in_iff.mpr (by constructor <;> omega)))
              refine tk_aldA hx hb hK hP 4 ma_20 hfo_145 rfl (vp_in_iff.mpr (by constructor <;> omega)) hga_147 dX12_needsGoOn_47 ?_
              refine lv_iconst (v := 3) hx hb dX12_needsGoOn_48 (by decide) ?_
              refine lv_iload hx hb dX12_needsGoOn_49 (lv_at hl 4 rfl) ?_
              refine lv_imul hx hb dX12_needsGoOn_51 ?_
              refine lv_topi (fun x_148 ex_148 => ?_)
              have hx_148 : x_148.toInt = 3 * y_69.toInt := by rw [ex_148, ml_I (by rw [ti_3]; omega) (by rw [ti_3]; omega), ti_3]
              have bx_148 : (0 ≤ x_148.toInt ∧ x_148.toInt ≤ 309) := by constructor <;> omega
              refine lv_iload hx hb dX12_needsGoOn_52 (lv_at hl 0 rfl) ?_
              refine lv_iadd hx hb dX12_needsGoOn_54 ?_
              refine lv_topi (fun x_149 ex_149 => ?_)
              have hx_149 : x_149.toInt = x_148.toInt + y_120.toInt := by rw [ex_149, ad_I (by omega) (by omega)]
              have bx_149 : (0 ≤ x_149.toInt ∧ x_149.toInt ≤ 311) := by constructor <;> omega
              obtain ⟨g_151, hfo_150, hbg_151⟩ := un_585 (hG _ ma_147) ka_147
              refine tk_ildP hx hb hK hP 0 ma_147 hfo_150 rfl (vp_in_iff.mpr (by constructor <;> omega)) dX12_needsGoOn_55 ?_
              refine lv_topi (fun x_152 ex_152 => ?_)
              have bx_152 : ((-2147483648) ≤ x_152.toInt ∧ x_152.toInt ≤ 2147483647) := ⟨i32_lo _, i32_hi _⟩
              have hcut_155 : ∀ (y_153 : Int32), (0 ≤ y_153.toInt ∧ y_153.toInt ≤ 63) → ∀ (H : Heap) (locs : List Loc), va_P (dC, dI) vwCl (va_pl L f_124) H → va_S (fun q => q ∈ L) s.heap H locs → ∀ (ls : Array Slot), lv_has ls 10 [(8, .int y_120), (7, .int y_121), (6, .int y_122), (5, .int x_88), (4, .int y_69), (3, .int y_70), (0, .ref o0), (1, .int p1), (2, .int p2)] → W p l e (headSpec (wU yX12_needsGoOn cX12_needsGoOn 10 (some .boolean)) { frames := 3, cells := 0, slots := 0, locals := 76 }).room s m [.ref o0, .int p1, .int p2].toArray below meth c H locs 0 0 (MQ below (va_Qi (fun (r : Int32) (f9 : Nat → va_E) => GI (okc cI cL cZ cR cG cH L kd) kd L f9 ∧ (0 ≤ r.toInt ∧ r.toInt ≤ 1) ∧ (∀ b, kd b ≠ 583 → kd b ≠ 585 → kd b ≠ 587 → f9 b = f b) ∧ (∀ b9 g9, fldR (f9 o0) 19 = some b9 → f9 b9 = .inl (cI, 20, .inl g9) → r.toInt = 0 ∨ ∀ j : Nat, (j : Int) = p1.toInt + 1 → (g9 j).toInt ≤ 8 * p1.toInt)) (qP (dC, dI) cI cL cZ cR cG cH L) (fun q => q ∈ L)) [.ref o0, .int p1, .int p2].toArray s 0 0 (fun q => q ∈ L)) (F0 m 90 ls [.int y_153]) := by
                intro y_153 by_153 H locs hP hS ls hl
                refine lv_istore (lv' := [(9, .int y_153), (8, .int y_120), (7, .int y_121), (6, .int y_122), (5, .int x_88), (4, .int y_69), (3, .int y_70), (0, .ref o0), (1, .int p1), (2, .int p2)]) hx hb dX12_needsGoOn_90 hl (by decide) rfl (fun ls hl => ?_)
                refine lv_aload_n hx hb dX12_needsGoOn_92 rfl (lv_at hl 7 rfl) ?_
                refine tk_getP (D := (dC, dI)) (ci := 12) (v := .ref a_20) (C := RX12) (T := TX12) (N := 56) hx hb hU inlX12 hown hK hP mo0 hfo_125 rfl 18 (by decide) (hU _ wd_178) (fun _ h9 => h9) rfl dX12_needsGoOn_93 ?_
                refine lv_iload_n hx hb dX12_needsGoOn_96 rfl (lv_at hl 8 rfl) ?_
                refine lv_iconst (v := 1) hx hb dX12_needsGoOn_97 (by decide) ?_
                refine lv_iadd hx hb dX12_needsGoOn_98 ?_
                refine lv_topi (fun x_156 ex_156 => ?_)
                have hx_156 : x_156.toInt = p1.toInt + 1 := by rw [ex_156, ad_I (by rw [ti_1]; omega) (by rw [ti_1]; omega), ti_1]
                have bx_156 : (1 ≤ x_156.toInt ∧ x_156.toInt ≤ 14) := by constructor <;> omega
                obtain ⟨a_157, hga_157, ma_157, ka_157⟩ := hbg_146 (Int32.toNatClampNeg x_156) (in_lt (vp_in_iff.mpr (by constructor <;> omega)))
                refine tk_aldA hx hb hK hP 4 ma_20 hfo_145 rfl (vp_in_iff.mpr (by constructor <;> omega)) hga_157 dX12_needsGoOn_99 ?_
                refine lv_iconst (v := 3) hx hb dX12_needsGoOn_100 (by decide) ?_
                refine lv_iload_n hx hb dX12_needsGoOn_101 rfl (lv_at hl 6 rfl) ?_
                refine lv_imul hx hb dX12_needsGoOn_102 ?_
                refine lv_topi (fun x_158 ex_158 => ?_)
                have hx_158 : x_158.toInt = 3 * y_70.toInt := by rw [ex_158, ml_I (by rw [ti_3]; omega) (by rw [ti_3]; omega), ti_3]
                have bx_158 : (0 ≤ x_158.toInt ∧ x_158.toInt ≤ 312) := by constructor <;> omega
                refine lv_iload hx hb dX12_needsGoOn_103 (lv_at hl 1 rfl) ?_
                refine lv_iadd hx hb dX12_needsGoOn_105 ?_
                refine lv_topi (fun x_159 ex_159 => ?_)
                have hx_159 : x_159.toInt = x_158.toInt + y_120.toInt := by rw [ex_159, ad_I (by omega) (by omega)]
                have bx_159 : (0 ≤ x_159.toInt ∧ x_159.toInt ≤ 314) := by constructor <;> omega
                refine lv_iload hx hb dX12_needsGoOn_106 (lv_at hl 0 rfl) ?_
                obtain ⟨g_161, hfo_160, hbg_161⟩ := un_585 (hG _ ma_157) ka_157
                refine tk_istP hx hb hK hP hD hS 0 ma_157 hfo_160 rfl (vp_in_iff.mpr (by constructor <;> omega)) dX12_needsGoOn_108 (fun H locs hP hD hS => ?_)
                obtain ⟨f_163, ef_163⟩ : ∃ y : Nat → va_E, y = va_up f_124 a_157 (.inl (cI, 480, .inl (upd g_161 (Int32.toNatClampNeg x_159) y_153))) := ⟨_, rfl⟩
                have hP : va_P (dC, dI) vwCl (va_pl L f_163) H := by rw [ef_163]; exact hP
                have hD : va_D (fun q => q ∈ L) (va_pl L f_163) := by rw [ef_163]; exact hD
                have hG : GI (okc cI cL cZ cR cG cH L kd) kd L f_163 := by rw [ef_163]; exact hG.set a_157 (mk_585 ka_157 ⟨_, rfl, okI_up hbg_161 ⟨i32_lo _, i32_hi _⟩ _⟩)
                have hfo_164 : f_163 o0 = .inr (12, [.ref a_2, .ref a_3, .ref a_4, .int v_5, .ref a_6, .int v_7, .int v_8, .int v_9, .int v_10, .int v_11, .int v_12, .int v_13, .int v_14, .int v_15, .int v_16, .ref a_17, .ref a_18, .ref a_19, .ref a_20, .ref a_21, .ref a_22, .ref a_23, .ref a_24, .int v_25, .int v_26, .int v_27, .int v_28, .int v_29, .ref a_30, .int v_31, .ref a_32, .ref a_33, .int v_34, .int v_35, .ref a_36, .int v_37, .ref a_38, .ref a_39, .int v_40, .int v_41, .ref a_42, .ref a_43, .ref a_44, .int v_45, .ref a_46, .ref a_47, .ref a_48, .ref a_49, .ref a_50, .ref a_51, .ref a_52, .ref a_53, .ref a_54, .int v_55, .int v_56, .ref a_57]) := by rw [ef_163, up_ne (kd_ne ka_157 ko0 (by decide))]; exact hfo_125
                have hfo_165 : f_163 a_21 = .inl (cI, 20, .inl g_59) := by rw [ef_163, up_ne (kd_ne ka_157 ka_21 (by decide))]; exact hfo_126
                have hfo_166 : f_163 a_19 = .inl (cG, 20, .inr (.inr (.inr (.inr g_84)))) := by rw [ef_163, up_ne (kd_ne ka_157 ka_19 (by decide))]; exact hfo_127
                have hfo_167 : f_163 a_85 = .inl (cI, 160, .inl g_87) := by rw [ef_163, up_ne (kd_ne ka_157 ka_85 (by decide))]; exact hfo_128
                have hfo_168 : f_163 a_20 = .inl (cG, 20, .inr (.inr (.inr (.inr g_146)))) := by rw [ef_163, up_ne (kd_ne ka_157 ka_20 (by decide))]; exact hfo_145
                have hfr0 : ∀ b, kd b ≠ 583 → kd b ≠ 585 → kd b ≠ 587 → f_163 b = f b := fun b q583 q585 q587 => (congrFun ef_163 b).trans ((up_ne (fun e9 => q585 (by rw [e9]; exact ka_157))).trans (hfr0 b q583 q585 q587))
                have hfo_169 : f_163 a_157 = .inl (cI, 480, .inl (upd g_161 (Int32.toNatClampNeg x_159) y_153)) := by rw [ef_163]; exact up_self
                refine lv_iload hx hb dX12_needsGoOn_109 (lv_at hl 2 rfl) ?_
                refine lv_iload hx hb dX12_needsGoOn_111 (lv_at hl 0 rfl) ?_
                refine lv_ior hx hb dX12_needsGoOn_113 ?_
                refine lv_topi (fun x_170 ex_170 => ?_)
                have bx_170 : ((-2147483648) ≤ x_170.toInt ∧ x_170.toInt ≤ 2147483647) := ⟨i32_lo _, i32_hi _⟩
                refine lv_istore (lv' := [(7, .int x_170), (9, .int y_153), (8, .int y_120), (6, .int y_122), (5, .int x_88), (4, .int y_69), (3, .int y_70), (0, .ref o0), (1, .int p1), (2, .int p2)]) hx hb dX12_needsGoOn_114 hl (by decide) rfl (fun ls hl => ?_)
                refine lv_iload hx hb dX12_needsGoOn_116 (lv_at hl 3 rfl) ?_
                have hcut_173 : ∀ (y_171 : Int32), (0 ≤ y_171.toInt ∧ y_171.toInt ≤ 1) → ∀ (H : Heap) (locs : List Loc), va_P (dC, dI) vwCl (va_pl L f_163) H → va_S (fun q => q ∈ L) s.heap H locs → ∀ (ls : Array Slot), lv_has ls 10 [(7, .int x_170), (9, .int y_153), (8, .int y_120), (6, .int y_122), (5, .int x_88), (4, .int y_69), (3, .int y_70), (0, .ref o0), (1, .int p1), (2, .int p2)] → W p l e (headSpec (wU yX12_needsGoOn cX12_needsGoOn 10 (some .boolean)) { frames := 3, cells := 0, slots := 0, locals := 76 }).room s m [.ref o0, .int p1, .int p2].toArray below meth c H locs 0 0 (MQ below (va_Qi (fun (r : Int32) (f9 : Nat → va_E) => GI (okc cI cL cZ cR cG cH L kd) kd L f9 ∧ (0 ≤ r.toInt ∧ r.toInt ≤ 1) ∧ (∀ b, kd b ≠ 583 → kd b ≠ 585 → kd b ≠ 587 → f9 b = f b) ∧ (∀ b9 g9, fldR (f9 o0) 19 = some b9 → f9 b9 = .inl (cI, 20, .inl g9) → r.toInt = 0 ∨ ∀ j : Nat, (j : Int) = p1.toInt + 1 → (g9 j).toInt ≤ 8 * p1.toInt)) (qP (dC, dI) cI cL cZ cR cG cH L) (fun q => q ∈ L)) [.ref o0, .int p1, .int p2].toArray s 0 0 (fun q => q ∈ L)) (F0 m 147 ls [.int y_171]) := by
                  intro y_171 by_171 H locs hP hS ls hl
                  refine lv_istore (lv' := [(6, .int y_171), (7, .int x_170), (9, .int y_153), (8, .int y_120), (5, .int x_88), (4, .int y_69), (3, .int y_70), (0, .ref o0), (1, .int p1), (2, .int p2)]) hx hb dX12_needsGoOn_147 hl (by decide) rfl (fun ls hl => ?_)
                  obtain ⟨x_174, ex_174⟩ : ∃ y : Int32, y_120 + 1 = y := ⟨_, rfl⟩
                  have hx_174 : x_174.toInt = y_120.toInt + 1 := by rw [← ex_174, ad_I (by rw [ti_1]; omega) (by rw [ti_1]; omega), ti_1]
                  have bx_174 : (1 ≤ x_174.toInt ∧ x_174.toInt ≤ 3) := by constructor <;> omega
                  refine lv_iinc (v := x_174) (lv' := [(8, .int x_174), (6, .int y_171), (7, .int x_170), (9, .int y_153), (5, .int x_88), (4, .int y_69), (3, .int y_70), (0, .ref o0), (1, .int p1), (2, .int p2)]) hx hb dX12_needsGoOn_149 hl (k := 3) rfl ex_174 (by decide) rfl (fun ls hl => ?_)
                  refine lv_goto (tgt := 36) hx hb dX12_needsGoOn_152 (by decide) ?_
                  exact ih_hloop_119 x_174 (by constructor <;> omega) x_170 (by constructor <;> omega) y_171 (by constructor <;> omega) f_163 hG _ _ hP hS hD hfr0 hfo_164 hfo_165 hfo_166 hfo_167 (by omega) ls (lv_sub hl [0, 2, 1, 4, 5, 6, 7, 8, 9] rfl)
                refine lv_if_ne (tgt := 142) hx hb dX12_needsGoOn_118 (by decide) (fun c_175 => ?_) (fun c_175 => ?_)
                · skip
                  rw [← Int32.toInt_inj, ti_0] at c_175
                  refine lv_iconst (v := 1) hx hb dX12_needsGoOn_142 (by decide) ?_
                  refine lv_goto (tgt := 147) hx hb dX12_needsGoOn_143 (by decide) ?_
                  exact hcut_173 1 (by decide) _ _ hP hS ls (lv_sub hl [0, 1, 2, 3, 4, 5, 6, 7, 8, 9] rfl)
                · skip
                  rw [← Int32.toInt_inj, ti_0] at c_175
                  refine lv_iload hx hb dX12_needsGoOn_121 (lv_at hl 1 rfl) ?_
                  refine lv_if_eq (tgt := 146) hx hb dX12_needsGoOn_123 (by decide) (fun c_176 => ?_) (fun c_176 => ?_)
                  · skip
                    rw [← Int32.toInt_inj, ti_0] at c_176
                    refine lv_iconst (v := 0) hx hb dX12_needsGoOn_146 (by decide) ?_
                    exact hcut_173 0 (by decide) _ _ hP hS ls (lv_sub hl [0, 1, 2, 3, 4, 5, 6, 7, 8, 9] rfl)
                  · skip
                    rw [← Int32.toInt_inj, ti_0] at c_176
                    refine lv_aload_n hx hb dX12_needsGoOn_126 rfl (lv_at hl 7 rfl) ?_
                    refine lv_iconst (v := 3) hx hb dX12_needsGoOn_127 (by decide) ?_
                    refine lv_iload hx hb dX12_needsGoOn_128 (lv_at hl 4 rfl) ?_
                    refine lv_imul hx hb dX12_needsGoOn_130 ?_
                    refine lv_topi (fun x_177 ex_177 => ?_)
                    have hx_177 : x_177.toInt = 3 * x_88.toInt := by rw [ex_177, ml_I (by rw [ti_3]; omega) (by rw [ti_3]; omega), ti_3]
                    have bx_177 : (0 ≤ x_177.toInt ∧ x_177.toInt ≤ 21) := by constructor <;> omega
                    refine lv_iload hx hb dX12_needsGoOn_131 (lv_at hl 2 rfl) ?_
                    refine lv_iadd hx hb dX12_needsGoOn_133 ?_
                    refine lv_topi (fun x_178 ex_178 => ?_)
                    have hx_178 : x_178.toInt = x_177.toInt + y_120.toInt := by rw [ex_178, ad_I (by omega) (by omega)]
                    have bx_178 : (0 ≤ x_178.toInt ∧ x_178.toInt ≤ 23) := by constructor <;> omega
                    refine lv_iload hx hb dX12_needsGoOn_134 (lv_at hl 1 rfl) ?_
                    refine tk_ViP (As := [.int x_178, .int y_153]) (rest := []) (n := 2) hx hb hml hown hU hN hZ (s_X12_isMet_k12 l (dC, dI) cI cL cZ cR cG cH Z kd L f_163 hG o0 mo0 ko0 x_178 (by constructor <;> omega) y_153) wd_954 wd_955 wd_956 wd_5 wd_957 (by decide +kernel) ⟨Nat.le_of_ble_eq_true rfl, Nat.le_of_ble_eq_true rfl⟩ hK hP hD hS mo0 hfo_164 12 rfl rfl rfl hl.1 rfl (Nat.le_of_ble_eq_true rfl) dX12_needsGoOn_136 ⟨Nat.le_of_ble_eq_true rfl, Nat.le_of_ble_eq_true rfl⟩ (fun x_179 f_180 H locs hw hP hD hS => ?_)
                    obtain ⟨rfl, bx_179⟩ := hw
                    refine lv_if_eq (tgt := 146) hx hb dX12_needsGoOn_139 (by decide) (fun c_182 => ?_) (fun c_182 => ?_)
                    · skip
                      rw [← Int32.toInt_inj, ti_0] at c_182
                      refine lv_iconst (v := 0) hx hb dX12_needsGoOn_146 (by decide) ?_
                      exact hcut_173 0 (by decide) _ _ hP hS ls (lv_sub hl [0, 1, 2, 3, 4, 5, 6, 7, 8, 9] rfl)
                    · skip
                      rw [← Int32.toInt_inj, ti_0] at c_182
                      refine lv_iconst (v := 1) hx hb dX12_needsGoOn_142 (by decide) ?_
                      refine lv_goto (tgt := 147) hx hb dX12_needsGoOn_143 (by decide) ?_
                      exact hcut_173 1 (by decide) _ _ hP hS ls (lv_sub hl [0, 1, 2, 3, 4, 5, 6, 7, 8, 9] rfl)
              refine lv_if_ne (tgt := 63) hx hb dX12_needsGoOn_56 (by decide) (fun c_183 => ?_) (fun c_183 => ?_)
              · skip
                rw [← Int32.toInt_inj, ti_0] at c_183
                refine lv_aload_n hx hb dX12_needsGoOn_63 rfl (lv_at hl 6 rfl) ?_
                refine lv_iconst (v := 3) hx hb dX12_needsGoOn_64 (by decide) ?_
                refine lv_iload hx hb dX12_needsGoOn_65 (lv_at hl 3 rfl) ?_
                refine lv_imul hx hb dX12_needsGoOn_67 ?_
                refine lv_topi (fun x_184 ex_184 => ?_)
                have hx_184 : x_184.toInt = 3 * x_88.toInt := by rw [ex_184, ml_I (by rw [ti_3]; omega) (by rw [ti_3]; omega), ti_3]
                have bx_184 : (0 ≤ x_184.toInt ∧ x_184.toInt ≤ 21) := by constructor <;> omega
                refine lv_iload hx hb dX12_needsGoOn_68 (lv_at hl 0 rfl) ?_
                refine lv_iadd hx hb dX12_needsGoOn_70 ?_
                refine lv_topi (fun x_185 ex_185 => ?_)
                have hx_185 : x_185.toInt = x_184.toInt + y_120.toInt := by rw [ex_185, ad_I (by omega) (by omega)]
                have bx_185 : (0 ≤ x_185.toInt ∧ x_185.toInt ≤ 23) := by constructor <;> omega
                refine lv_iconst (v := 1) hx hb dX12_needsGoOn_71 (by decide) ?_
                refine lv_aload_n hx hb dX12_needsGoOn_72 rfl (lv_at hl 6 rfl) ?_
                refine tk_getP (D := (dC, dI)) (ci := 12) (v := .ref a_20) (C := RX12) (T := TX12) (N := 56) hx hb hU inlX12 hown hK hP mo0 hfo_125 rfl 18 (by decide) (hU _ wd_178) (fun _ h9 => h9) rfl dX12_needsGoOn_73 ?_
                refine lv_iload_n hx hb dX12_needsGoOn_76 rfl (lv_at hl 7 rfl) ?_
                obtain ⟨a_186, hga_186, ma_186, ka_186⟩ := hbg_146 (Int32.toNatClampNeg p1) (in_lt (vp_in_iff.mpr (by constructor <;> omega)))
                refine tk_aldA hx hb hK hP 4 ma_20 hfo_145 rfl (vp_in_iff.mpr (by constructor <;> omega)) hga_186 dX12_needsGoOn_77 ?_
                refine lv_iconst (v := 3) hx hb dX12_needsGoOn_78 (by decide) ?_
                refine lv_iload hx hb dX12_needsGoOn_79 (lv_at hl 4 rfl) ?_
                refine lv_imul hx hb dX12_needsGoOn_81 ?_
                refine lv_topi (fun x_187 ex_187 => ?_)
                have hx_187 : x_187.toInt = 3 * y_69.toInt := by rw [ex_187, ml_I (by rw [ti_3]; omega) (by rw [ti_3]; omega), ti_3]
                have bx_187 : (0 ≤ x_187.toInt ∧ x_187.toInt ≤ 309) := by constructor <;> omega
                refine lv_iload hx hb dX12_needsGoOn_82 (lv_at hl 0 rfl) ?_
                refine lv_iadd hx hb dX12_needsGoOn_84 ?_
                refine lv_topi (fun x_188 ex_188 => ?_)
                have hx_188 : x_188.toInt = x_187.toInt + y_120.toInt := by rw [ex_188, ad_I (by omega) (by omega)]
                have bx_188 : (0 ≤ x_188.toInt ∧ x_188.toInt ≤ 311) := by constructor <;> omega
                obtain ⟨g_190, hfo_189, hbg_190⟩ := un_585 (hG _ ma_186) ka_186
                refine tk_ildP hx hb hK hP 0 ma_186 hfo_189 rfl (vp_in_iff.mpr (by constructor <;> omega)) dX12_needsGoOn_85 ?_
                refine lv_topi (fun x_191 ex_191 => ?_)
                have bx_191 : ((-2147483648) ≤ x_191.toInt ∧ x_191.toInt ≤ 2147483647) := ⟨i32_lo _, i32_hi _⟩
                refine lv_iload_n hx hb dX12_needsGoOn_86 rfl (lv_at hl 8 rfl) ?_
                refine tk_ViP (As := [.int x_185, .int 1, .int x_191, .int p2]) (rest := []) (n := 4) hx hb hml hown hU hN hZ (s_X12_goesOn_k12 l (dC, dI) cI cL cZ cR cG cH Z kd L f_124 hG o0 mo0 ko0 x_185 (by constructor <;> omega) 1 (by decide) x_191 p2) wd_942 wd_943 wd_944 wd_5 wd_945 (by decide +kernel) ⟨Nat.le_of_ble_eq_true rfl, Nat.le_of_ble_eq_true rfl⟩ hK hP hD hS mo0 hfo_125 12 rfl rfl rfl hl.1 rfl (Nat.le_of_ble_eq_true rfl) dX12_needsGoOn_87 ⟨Nat.le_of_ble_eq_true rfl, Nat.le_of_ble_eq_true rfl⟩ (fun x_192 f_193 H locs hw hP hD hS => ?_)
                obtain ⟨rfl, bx_192⟩ := hw
                exact hcut_155 x_192 (by constructor <;> omega) _ _ hP hS ls (lv_sub hl [0, 1, 2, 3, 4, 5, 6, 7, 8] rfl)
              · skip
                rw [← Int32.toInt_inj, ti_0] at c_183
                refine lv_iconst (v := 0) hx hb dX12_needsGoOn_59 (by decide) ?_
                refine lv_goto (tgt := 90) hx hb dX12_needsGoOn_60 (by decide) ?_
                exact hcut_155 0 (by decide) _ _ hP hS ls (lv_sub hl [0, 1, 2, 3, 4, 5, 6, 7, 8] rfl)
        exact hloop_119 4 0 (by decide) 0 (by decide) 0 (by decide) f_72 hG _ _ hP hS hD hfr0 hfo_73 hfo_74 hfo_83 hfo_86 (by (try rw [ti_0]) <;> omega) ls hl
  exact hloop_68 105 0 (by decide) 0 (by decide) f hG _ _ hP hS hD hfr0 hfo_1 hfo_58 (by (try rw [ti_0]) <;> omega) (by (try rw [ti_0]) <;> omega) ls hl
