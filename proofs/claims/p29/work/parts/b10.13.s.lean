set_option maxHeartbeats 8000000 in
set_option maxRecDepth 100000 in
theorem s_X12_someHolds_k12_a598 (l : Launch) (D : va_G) (cI cL cZ cR cG cH : ClassId) (Z : zT) (kd : Nat → Nat) (L : List Nat) (f : Nat → va_E) (hG : GI (okc cI cL cZ cR cG cH L kd) kd L f) (o0 : Nat) (mo0 : o0 ∈ L) (ko0 : kd o0 = 12) (p1 : Int32) (bp1 : (0 ≤ p1.toInt ∧ p1.toInt ≤ 7)) (p2 : Int32) (bp2 : (0 ≤ p2.toInt ∧ p2.toInt ≤ 15)) (o3 : Nat) (mo3 : o3 ∈ L) (ko3 : kd o3 = 598) (p4 : Int32) (bp4 : (0 ≤ p4.toInt ∧ p4.toInt ≤ 16)) : mPI l D cI cL cZ cR cG cH Z yX12_someHolds cX12_someHolds 6 (some .boolean) 4 103 [.ref o0, .int p1, .int p2, .ref o3, .int p4] L f (fun (r : Int32) (f9 : Nat → va_E) => f = f9 ∧ (0 ≤ r.toInt ∧ r.toInt ≤ 1)) := by
  obtain ⟨dC, dI⟩ := D
  refine Met.ofW (cc := cX12_someHolds) (maxL := 6) (ret := (some .boolean)) (by decide) rfl ?_
  intro p e s m args below meth c s₁ B hml hv
  obtain ⟨rfl, hP, hK, hD0, hN, hZ⟩ := hv
  have hx := B.exec
  have hb := B.bytes
  have hr := B.returns
  have hU : ∀ w ∈ wsU, w.before _ s = true := fun w h => atoms_spec (ws := wU yX12_someHolds cX12_someHolds 6 (some .boolean)) B.pre w (List.mem_cons_of_mem _ h)
  have hown : s.vm.findClass RX12 = some m.cls := findClass_of_methodNamed B.named
  have hlocks := B.notSynchronized
  have hD := pl_in hD0
  have hS : va_S (fun q => q ∈ L) s.heap s.heap [] := va_S.rf
  have hl := lv_entry ([.ref o0, .int p1, .int p2, .ref o3, .int p4]) (n := 6) (Nat.le_of_ble_eq_true rfl)
  rw [lg_entry_eq]
  generalize (lg_sl ([.ref o0, .int p1, .int p2, .ref o3, .int p4]) ++ List.replicate (6 - (lg_sl ([.ref o0, .int p1, .int p2, .ref o3, .int p4])).length) Slot.unset).toArray = ls at hl ⊢
  have hl : lv_has ls 6 [(0, .ref o0), (1, .int p1), (2, .int p2), (3, .ref o3), (4, .int p4)] := hl
  refine lv_iconst (v := 0) hx hb dX12_someHolds_0 (by decide) ?_
  refine lv_istore (lv' := [(5, .int 0), (0, .ref o0), (1, .int p1), (2, .int p2), (3, .ref o3), (4, .int p4)]) hx hb dX12_someHolds_1 hl (by decide) rfl (fun ls hl => ?_)
  have hloop_13 : ∀ (n : Nat), ∀ (y_14 : Int32), (0 ≤ y_14.toInt ∧ y_14.toInt ≤ 3) → ∀ (H : Heap) (locs : List Loc), va_P (dC, dI) vwCl (va_pl L f) H → va_S (fun q => q ∈ L) s.heap H locs → 3 - y_14.toInt < (n : Int) → ∀ (ls : Array Slot), lv_has ls 6 [(5, .int y_14), (0, .ref o0), (1, .int p1), (2, .int p2), (3, .ref o3), (4, .int p4)] → W p l e (headSpec (wU yX12_someHolds cX12_someHolds 6 (some .boolean)) { frames := 4, cells := 0, slots := 0, locals := 103 }).room s m [.ref o0, .int p1, .int p2, .ref o3, .int p4].toArray below meth c H locs 0 0 (MQ below (va_Qi (fun (r : Int32) (f9 : Nat → va_E) => f = f9 ∧ (0 ≤ r.toInt ∧ r.toInt ≤ 1)) (qP (dC, dI) cI cL cZ cR cG cH L) (fun q => q ∈ L)) [.ref o0, .int p1, .int p2, .ref o3, .int p4].toArray s 0 0 (fun q => q ∈ L)) (F0 m 3 ls []) := by
    intro n
    induction n with
    | zero => intro y_14 by_14 H locs hP hS hmuhloop_13 ls hl; exfalso; omega
    | succ n ih_hloop_13 =>
      intro y_14 by_14 H locs hP hS hmuhloop_13 ls hl
      refine lv_iload hx hb dX12_someHolds_3 (lv_at hl 0 rfl) ?_
      refine lv_aload_n hx hb dX12_someHolds_5 rfl (lv_at hl 1 rfl) ?_
      refine lv_iload_n hx hb dX12_someHolds_6 rfl (lv_at hl 2 rfl) ?_
      refine lv_iconst (v := 3) hx hb dX12_someHolds_7 (by decide) ?_
      obtain ⟨a_16, a_17, a_18, v_19, a_20, v_21, v_22, v_23, v_24, v_25, v_26, v_27, v_28, v_29, v_30, a_31, a_32, a_33, a_34, a_35, a_36, a_37, a_38, v_39, v_40, v_41, v_42, v_43, a_44, v_45, a_46, a_47, v_48, v_49, a_50, v_51, a_52, a_53, v_54, v_55, a_56, a_57, a_58, v_59, a_60, a_61, a_62, a_63, a_64, a_65, a_66, a_67, a_68, v_69, v_70, a_71, hfo_72, fa_73⟩ := un12 (hG _ mo0) ko0
      refine tk_ViP (As := [.int p1, .int 3]) (rest := [.int y_14]) (n := 2) hx hb hml hown hU hN hZ (s_X12_ofRule_k12_c3_3 l (dC, dI) cI cL cZ cR cG cH Z kd L f hG o0 mo0 ko0 p1 (by constructor <;> omega)) wd_894 wd_895 wd_896 wd_5 wd_897 (by decide +kernel) ⟨Nat.le_of_ble_eq_true rfl, Nat.le_of_ble_eq_true rfl⟩ hK hP hD hS mo0 hfo_72 12 rfl rfl rfl hl.1 rfl (Nat.le_of_ble_eq_true rfl) dX12_someHolds_8 ⟨Nat.le_of_ble_eq_true rfl, Nat.le_of_ble_eq_true rfl⟩ (fun x_74 f_75 H locs hw hP hD hS => ?_)
      obtain ⟨rfl, bx_74⟩ := hw
      refine lv_icmp_ge (tgt := 39) hx hb dX12_someHolds_11 (by decide) (fun c_77 => ?_) (fun c_77 => ?_)
      · skip
        rw [Int32.le_iff_toInt_le] at c_77
        refine lv_iconst (v := 0) hx hb dX12_someHolds_39 (by decide) ?_
        exact W.zret (v := 0) (ty := .boolean) hx hb hr rfl (fun t ht hW => ⟨⟨0, f, rfl, ⟨rfl, (by decide)⟩, by rw [ht]; exact hP, va_K.moved hW.alike hK, pl_in hD⟩, hS.F ht⟩) hS.2.2 dX12_someHolds_40
      · skip
        rw [Int32.le_iff_toInt_le] at c_77
        refine lv_aload_n hx hb dX12_someHolds_14 rfl (lv_at hl 1 rfl) ?_
        refine lv_iconst (v := 3) hx hb dX12_someHolds_15 (by decide) ?_
        refine lv_iload_n hx hb dX12_someHolds_16 rfl (lv_at hl 2 rfl) ?_
        refine lv_imul hx hb dX12_someHolds_17 ?_
        refine lv_topi (fun x_78 ex_78 => ?_)
        have hx_78 : x_78.toInt = 3 * p1.toInt := by rw [ex_78, ml_I (by rw [ti_3]; omega) (by rw [ti_3]; omega), ti_3]
        have bx_78 : (0 ≤ x_78.toInt ∧ x_78.toInt ≤ 21) := by constructor <;> omega
        refine lv_iload hx hb dX12_someHolds_18 (lv_at hl 0 rfl) ?_
        refine lv_iadd hx hb dX12_someHolds_20 ?_
        refine lv_topi (fun x_79 ex_79 => ?_)
        have hx_79 : x_79.toInt = x_78.toInt + y_14.toInt := by rw [ex_79, ad_I (by omega) (by omega)]
        have bx_79 : (0 ≤ x_79.toInt ∧ x_79.toInt ≤ 23) := by constructor <;> omega
        refine lv_iload_n hx hb dX12_someHolds_21 rfl (lv_at hl 3 rfl) ?_
        refine lv_aload_n hx hb dX12_someHolds_22 rfl (lv_at hl 4 rfl) ?_
        refine lv_iload hx hb dX12_someHolds_23 (lv_at hl 5 rfl) ?_
        refine tk_ViP (As := [.int x_79, .int p2, .ref o3, .int p4]) (rest := []) (n := 4) hx hb hml hown hU hN hZ (s_X12_holds_k12_a598 l (dC, dI) cI cL cZ cR cG cH Z kd L f hG o0 mo0 ko0 x_79 (by constructor <;> omega) p2 (by constructor <;> omega) o3 mo3 ko3 p4 (by constructor <;> omega)) wd_938 wd_939 wd_940 wd_5 wd_941 (by decide +kernel) ⟨Nat.le_of_ble_eq_true rfl, Nat.le_of_ble_eq_true rfl⟩ hK hP hD hS mo0 hfo_72 12 rfl rfl rfl hl.1 rfl (Nat.le_of_ble_eq_true rfl) dX12_someHolds_25 ⟨Nat.le_of_ble_eq_true rfl, Nat.le_of_ble_eq_true rfl⟩ (fun x_80 f_81 H locs hw hP hD hS => ?_)
        obtain ⟨rfl, bx_80⟩ := hw
        refine lv_if_eq (tgt := 33) hx hb dX12_someHolds_28 (by decide) (fun c_83 => ?_) (fun c_83 => ?_)
        · skip
          rw [← Int32.toInt_inj, ti_0] at c_83
          obtain ⟨x_84, ex_84⟩ : ∃ y : Int32, y_14 + 1 = y := ⟨_, rfl⟩
          have hx_84 : x_84.toInt = y_14.toInt + 1 := by rw [← ex_84, ad_I (by rw [ti_1]; omega) (by rw [ti_1]; omega), ti_1]
          have bx_84 : (1 ≤ x_84.toInt ∧ x_84.toInt ≤ 3) := by constructor <;> omega
          refine lv_iinc (v := x_84) (lv' := [(5, .int x_84), (0, .ref o0), (1, .int p1), (2, .int p2), (3, .ref o3), (4, .int p4)]) hx hb dX12_someHolds_33 hl (k := 0) rfl ex_84 (by decide) rfl (fun ls hl => ?_)
          refine lv_goto (tgt := 3) hx hb dX12_someHolds_36 (by decide) ?_
          exact ih_hloop_13 x_84 (by constructor <;> omega) _ _ hP hS (by omega) ls (lv_sub hl [0, 1, 2, 3, 4, 5] rfl)
        · skip
          rw [← Int32.toInt_inj, ti_0] at c_83
          refine lv_iconst (v := 1) hx hb dX12_someHolds_31 (by decide) ?_
          exact W.zret (v := 1) (ty := .boolean) hx hb hr rfl (fun t ht hW => ⟨⟨1, f, rfl, ⟨rfl, (by decide)⟩, by rw [ht]; exact hP, va_K.moved hW.alike hK, pl_in hD⟩, hS.F ht⟩) hS.2.2 dX12_someHolds_32
  exact hloop_13 4 0 (by decide) _ _ hP hS (by (try rw [ti_0]) <;> omega) ls hl
set_option maxHeartbeats 8000000 in
set_option maxRecDepth 100000 in
theorem s_X12_isBroken_k12_a588 (l : Launch) (D : va_G) (cI cL cZ cR cG cH : ClassId) (Z : zT) (kd : Nat → Nat) (L : List Nat) (f : Nat → va_E) (hG : GI (okc cI cL cZ cR cG cH L kd) kd L f) (o0 : Nat) (mo0 : o0 ∈ L) (ko0 : kd o0 = 12) (p1 : Int32) (bp1 : (0 ≤ p1.toInt ∧ p1.toInt ≤ 7)) (p2 : Int32) (bp2 : (0 ≤ p2.toInt ∧ p2.toInt ≤ 19)) (o3 : Nat) (mo3 : o3 ∈ L) (ko3 : kd o3 = 588) (p4 : Int32) (bp4 : (0 ≤ p4.toInt ∧ p4.toInt ≤ 20)) : mPI l D cI cL cZ cR cG cH Z yX12_isBroken cX12_isBroken 10 (some .boolean) 5 128 [.ref o0, .int p1, .int p2, .ref o3, .int p4] L f (fun (r : Int32) (f9 : Nat → va_E) => f = f9 ∧ (0 ≤ r.toInt ∧ r.toInt ≤ 1)) := by
  obtain ⟨dC, dI⟩ := D
  refine Met.ofW (cc := cX12_isBroken) (maxL := 10) (ret := (some .boolean)) (by decide) rfl ?_
  intro p e s m args below meth c s₁ B hml hv
  obtain ⟨rfl, hP, hK, hD0, hN, hZ⟩ := hv
  have hx := B.exec
  have hb := B.bytes
  have hr := B.returns
  have hU : ∀ w ∈ wsU, w.before _ s = true := fun w h => atoms_spec (ws := wU yX12_isBroken cX12_isBroken 10 (some .boolean)) B.pre w (List.mem_cons_of_mem _ h)
  have hown : s.vm.findClass RX12 = some m.cls := findClass_of_methodNamed B.named
  have hlocks := B.notSynchronized
  have hD := pl_in hD0
  have hS : va_S (fun q => q ∈ L) s.heap s.heap [] := va_S.rf
  have hl := lv_entry ([.ref o0, .int p1, .int p2, .ref o3, .int p4]) (n := 10) (Nat.le_of_ble_eq_true rfl)
  rw [lg_entry_eq]
  generalize (lg_sl ([.ref o0, .int p1, .int p2, .ref o3, .int p4]) ++ List.replicate (10 - (lg_sl ([.ref o0, .int p1, .int p2, .ref o3, .int p4])).length) Slot.unset).toArray = ls at hl ⊢
  have hl : lv_has ls 10 [(0, .ref o0), (1, .int p1), (2, .int p2), (3, .ref o3), (4, .int p4)] := hl
  refine lv_aload_n hx hb dX12_isBroken_0 rfl (lv_at hl 3 rfl) ?_
  refine lv_iload_n hx hb dX12_isBroken_1 rfl (lv_at hl 2 rfl) ?_
  obtain ⟨g_2, hfo_1, hbg_2⟩ := un_588 (hG _ mo3) ko3
  refine tk_ildP hx hb hK hP 0 mo3 hfo_1 rfl (vp_in_iff.mpr (by constructor <;> omega)) dX12_isBroken_2 ?_
  refine lv_topi (fun x_3 ex_3 => ?_)
  have bx_3 : ((-2147483648) ≤ x_3.toInt ∧ x_3.toInt ≤ 2147483647) := ⟨i32_lo _, i32_hi _⟩
  refine lv_bipush (v := 9) hx hb dX12_isBroken_3 (by decide) ?_
  refine lv_idiv hx hb dX12_isBroken_5 (by decide) ?_
  refine lv_topi (fun x_4 ex_4 => ?_)
  have bx_4 : ((-2147483648) ≤ x_4.toInt ∧ x_4.toInt ≤ 2147483647) := ⟨i32_lo _, i32_hi _⟩
  refine lv_istore (lv' := [(5, .int x_4), (0, .ref o0), (1, .int p1), (2, .int p2), (3, .ref o3), (4, .int p4)]) hx hb dX12_isBroken_6 hl (by decide) rfl (fun ls hl => ?_)
  refine lv_aload_n hx hb dX12_isBroken_8 rfl (lv_at hl 4 rfl) ?_
  refine lv_iload_n hx hb dX12_isBroken_9 rfl (lv_at hl 3 rfl) ?_
  refine tk_ildP hx hb hK hP 0 mo3 hfo_1 rfl (vp_in_iff.mpr (by constructor <;> omega)) dX12_isBroken_10 ?_
  refine tk_topi (y := x_3) ex_3.symm ?_
  refine lv_bipush (v := 9) hx hb dX12_isBroken_11 (by decide) ?_
  refine lv_irem hx hb dX12_isBroken_13 (by decide) ?_
  refine lv_topi (fun x_5 ex_5 => ?_)
  have bx_5 : ((-2147483648) ≤ x_5.toInt ∧ x_5.toInt ≤ 2147483647) := ⟨i32_lo _, i32_hi _⟩
  refine lv_istore (lv' := [(6, .int x_5), (5, .int x_4), (0, .ref o0), (1, .int p1), (2, .int p2), (3, .ref o3), (4, .int p4)]) hx hb dX12_isBroken_14 hl (by decide) rfl (fun ls hl => ?_)
  refine lv_aload_n hx hb dX12_isBroken_16 rfl (lv_at hl 2 rfl) ?_
  refine lv_iload_n hx hb dX12_isBroken_17 rfl (lv_at hl 3 rfl) ?_
  refine lv_iconst (v := 2) hx hb dX12_isBroken_18 (by decide) ?_
  obtain ⟨a_6, a_7, a_8, v_9, a_10, v_11, v_12, v_13, v_14, v_15, v_16, v_17, v_18, v_19, v_20, a_21, a_22, a_23, a_24, a_25, a_26, a_27, a_28, v_29, v_30, v_31, v_32, v_33, a_34, v_35, a_36, a_37, v_38, v_39, a_40, v_41, a_42, a_43, v_44, v_45, a_46, a_47, a_48, v_49, a_50, a_51, a_52, a_53, a_54, a_55, a_56, a_57, a_58, v_59, v_60, a_61, hfo_62, fa_63⟩ := un12 (hG _ mo0) ko0
  refine tk_ViP (As := [.int p1, .int 2]) (rest := []) (n := 2) hx hb hml hown hU hN hZ (s_X12_ofRule_k12_c2_2 l (dC, dI) cI cL cZ cR cG cH Z kd L f hG o0 mo0 ko0 p1 (by constructor <;> omega)) wd_894 wd_895 wd_896 wd_5 wd_897 (by decide +kernel) ⟨Nat.le_of_ble_eq_true rfl, Nat.le_of_ble_eq_true rfl⟩ hK hP hD hS mo0 hfo_62 12 rfl rfl rfl hl.1 rfl (Nat.le_of_ble_eq_true rfl) dX12_isBroken_19 ⟨Nat.le_of_ble_eq_true rfl, Nat.le_of_ble_eq_true rfl⟩ (fun x_64 f_65 H locs hw hP hD hS => ?_)
  obtain ⟨rfl, bx_64⟩ := hw
  refine lv_istore (lv' := [(7, .int x_64), (6, .int x_5), (5, .int x_4), (0, .ref o0), (1, .int p1), (2, .int p2), (3, .ref o3), (4, .int p4)]) hx hb dX12_isBroken_22 hl (by decide) rfl (fun ls hl => ?_)
  refine lv_iload hx hb dX12_isBroken_24 (lv_at hl 2 rfl) ?_
  refine lv_aload_n hx hb dX12_isBroken_26 rfl (lv_at hl 3 rfl) ?_
  refine lv_iload_n hx hb dX12_isBroken_27 rfl (lv_at hl 4 rfl) ?_
  refine lv_iconst (v := 0) hx hb dX12_isBroken_28 (by decide) ?_
  refine tk_ViP (As := [.int p1, .int 0]) (rest := [.int x_4]) (n := 2) hx hb hml hown hU hN hZ (s_X12_ofRule_k12 l (dC, dI) cI cL cZ cR cG cH Z kd L f hG o0 mo0 ko0 p1 (by constructor <;> omega) 0 (by decide)) wd_894 wd_895 wd_896 wd_5 wd_897 (by decide +kernel) ⟨Nat.le_of_ble_eq_true rfl, Nat.le_of_ble_eq_true rfl⟩ hK hP hD hS mo0 hfo_62 12 rfl rfl rfl hl.1 rfl (Nat.le_of_ble_eq_true rfl) dX12_isBroken_29 ⟨Nat.le_of_ble_eq_true rfl, Nat.le_of_ble_eq_true rfl⟩ (fun x_67 f_68 H locs hw hP hD hS => ?_)
  obtain ⟨rfl, bx_67⟩ := hw
  refine lv_icmp_eq (tgt := 37) hx hb dX12_isBroken_32 (by decide) (fun c_70 => ?_) (fun c_70 => ?_)
  · skip
    rw [← Int32.toInt_inj] at c_70
    refine lv_iload hx hb dX12_isBroken_37 (lv_at hl 1 rfl) ?_
    refine lv_aload_n hx hb dX12_isBroken_39 rfl (lv_at hl 3 rfl) ?_
    refine lv_iload_n hx hb dX12_isBroken_40 rfl (lv_at hl 4 rfl) ?_
    refine lv_iconst (v := 1) hx hb dX12_isBroken_41 (by decide) ?_
    refine tk_ViP (As := [.int p1, .int 1]) (rest := [.int x_5]) (n := 2) hx hb hml hown hU hN hZ (s_X12_ofRule_k12 l (dC, dI) cI cL cZ cR cG cH Z kd L f hG o0 mo0 ko0 p1 (by constructor <;> omega) 1 (by decide)) wd_894 wd_895 wd_896 wd_5 wd_897 (by decide +kernel) ⟨Nat.le_of_ble_eq_true rfl, Nat.le_of_ble_eq_true rfl⟩ hK hP hD hS mo0 hfo_62 12 rfl rfl rfl hl.1 rfl (Nat.le_of_ble_eq_true rfl) dX12_isBroken_42 ⟨Nat.le_of_ble_eq_true rfl, Nat.le_of_ble_eq_true rfl⟩ (fun x_71 f_72 H locs hw hP hD hS => ?_)
    obtain ⟨rfl, bx_71⟩ := hw
    have hcut_75 : ∀ (y_74 : Int32), (0 ≤ y_74.toInt ∧ y_74.toInt ≤ 1) → ∀ (ls : Array Slot), lv_has ls 10 [(7, .int x_64), (6, .int x_5), (5, .int x_4), (0, .ref o0), (1, .int p1), (2, .int p2), (3, .ref o3), (4, .int p4)] → W p l e (headSpec (wU yX12_isBroken cX12_isBroken 10 (some .boolean)) { frames := 5, cells := 0, slots := 0, locals := 128 }).room s m [.ref o0, .int p1, .int p2, .ref o3, .int p4].toArray below meth c H locs 0 0 (MQ below (va_Qi (fun (r : Int32) (f9 : Nat → va_E) => f = f9 ∧ (0 ≤ r.toInt ∧ r.toInt ≤ 1)) (qP (dC, dI) cI cL cZ cR cG cH L) (fun q => q ∈ L)) [.ref o0, .int p1, .int p2, .ref o3, .int p4].toArray s 0 0 (fun q => q ∈ L)) (F0 m 53 ls [.int y_74]) := by
      intro y_74 by_74 ls hl
      refine lv_istore (lv' := [(8, .int y_74), (7, .int x_64), (6, .int x_5), (5, .int x_4), (0, .ref o0), (1, .int p1), (2, .int p2), (3, .ref o3), (4, .int p4)]) hx hb dX12_isBroken_53 hl (by decide) rfl (fun ls hl => ?_)
      refine lv_iload hx hb dX12_isBroken_55 (lv_at hl 0 rfl) ?_
      refine lv_if_eq (tgt := 89) hx hb dX12_isBroken_57 (by decide) (fun c_76 => ?_) (fun c_76 => ?_)
      · skip
        rw [← Int32.toInt_inj, ti_0] at c_76
        refine lv_iload hx hb dX12_isBroken_89 (lv_at hl 0 rfl) ?_
        have hcut_78 : ∀ (y_77 : Int32), (0 ≤ y_77.toInt ∧ y_77.toInt ≤ 1) → ∀ (ls : Array Slot), lv_has ls 10 [(8, .int y_74), (7, .int x_64), (6, .int x_5), (5, .int x_4), (0, .ref o0), (1, .int p1), (2, .int p2), (3, .ref o3), (4, .int p4)] → W p l e (headSpec (wU yX12_isBroken cX12_isBroken 10 (some .boolean)) { frames := 5, cells := 0, slots := 0, locals := 128 }).room s m [.ref o0, .int p1, .int p2, .ref o3, .int p4].toArray below meth c H locs 0 0 (MQ below (va_Qi (fun (r : Int32) (f9 : Nat → va_E) => f = f9 ∧ (0 ≤ r.toInt ∧ r.toInt ≤ 1)) (qP (dC, dI) cI cL cZ cR cG cH L) (fun q => q ∈ L)) [.ref o0, .int p1, .int p2, .ref o3, .int p4].toArray s 0 0 (fun q => q ∈ L)) (F0 m 125 ls [.int y_77]) := by
          intro y_77 by_77 ls hl
          refine lv_istore (lv' := [(9, .int y_77), (8, .int y_74), (7, .int x_64), (6, .int x_5), (5, .int x_4), (0, .ref o0), (1, .int p1), (2, .int p2), (3, .ref o3), (4, .int p4)]) hx hb dX12_isBroken_125 hl (by decide) rfl (fun ls hl => ?_)
          refine lv_iload hx hb dX12_isBroken_127 (lv_at hl 0 rfl) ?_
          refine lv_if_eq (tgt := 148) hx hb dX12_isBroken_129 (by decide) (fun c_79 => ?_) (fun c_79 => ?_)
          · skip
            rw [← Int32.toInt_inj, ti_0] at c_79
            refine lv_iconst (v := 0) hx hb dX12_isBroken_148 (by decide) ?_
            exact W.zret (v := 0) (ty := .boolean) hx hb hr rfl (fun t ht hW => ⟨⟨0, f, rfl, ⟨rfl, (by decide)⟩, by rw [ht]; exact hP, va_K.moved hW.alike hK, pl_in hD⟩, hS.F ht⟩) hS.2.2 dX12_isBroken_149
          · skip
            rw [← Int32.toInt_inj, ti_0] at c_79
            refine lv_aload_n hx hb dX12_isBroken_132 rfl (lv_at hl 5 rfl) ?_
            refine lv_iload_n hx hb dX12_isBroken_133 rfl (lv_at hl 6 rfl) ?_
            refine lv_iload_n hx hb dX12_isBroken_134 rfl (lv_at hl 7 rfl) ?_
            refine lv_aload_n hx hb dX12_isBroken_135 rfl (lv_at hl 8 rfl) ?_
            refine lv_iload hx hb dX12_isBroken_136 (lv_at hl 9 rfl) ?_
            refine tk_ViP (As := [.int p1, .int p2, .ref o3, .int p4]) (rest := []) (n := 4) hx hb hml hown hU hN hZ (s_X12_someHolds_k12_a588 l (dC, dI) cI cL cZ cR cG cH Z kd L f hG o0 mo0 ko0 p1 (by constructor <;> omega) p2 (by constructor <;> omega) o3 mo3 ko3 p4 (by constructor <;> omega)) wd_934 wd_935 wd_936 wd_5 wd_937 (by decide +kernel) ⟨Nat.le_of_ble_eq_true rfl, Nat.le_of_ble_eq_true rfl⟩ hK hP hD hS mo0 hfo_62 12 rfl rfl rfl hl.1 rfl (Nat.le_of_ble_eq_true rfl) dX12_isBroken_138 ⟨Nat.le_of_ble_eq_true rfl, Nat.le_of_ble_eq_true rfl⟩ (fun x_80 f_81 H locs hw hP hD hS => ?_)
            obtain ⟨rfl, bx_80⟩ := hw
            refine lv_if_eq (tgt := 148) hx hb dX12_isBroken_141 (by decide) (fun c_83 => ?_) (fun c_83 => ?_)
            · skip
              rw [← Int32.toInt_inj, ti_0] at c_83
              refine lv_iconst (v := 0) hx hb dX12_isBroken_148 (by decide) ?_
              exact W.zret (v := 0) (ty := .boolean) hx hb hr rfl (fun t ht hW => ⟨⟨0, f, rfl, ⟨rfl, (by decide)⟩, by rw [ht]; exact hP, va_K.moved hW.alike hK, pl_in hD⟩, hS.F ht⟩) hS.2.2 dX12_isBroken_149
            · skip
              rw [← Int32.toInt_inj, ti_0] at c_83
              refine lv_iconst (v := 1) hx hb dX12_isBroken_144 (by decide) ?_
              refine lv_goto (tgt := 149) hx hb dX12_isBroken_145 (by decide) ?_
              exact W.zret (v := 1) (ty := .boolean) hx hb hr rfl (fun t ht hW => ⟨⟨1, f, rfl, ⟨rfl, (by decide)⟩, by rw [ht]; exact hP, va_K.moved hW.alike hK, pl_in hD⟩, hS.F ht⟩) hS.2.2 dX12_isBroken_149
        refine lv_if_eq (tgt := 108) hx hb dX12_isBroken_91 (by decide) (fun c_84 => ?_) (fun c_84 => ?_)
        · skip
          rw [← Int32.toInt_inj, ti_0] at c_84
          refine lv_iload hx hb dX12_isBroken_108 (lv_at hl 1 rfl) ?_
          refine lv_iconst (v := 1) hx hb dX12_isBroken_110 (by decide) ?_
          refine lv_icmp_eq (tgt := 120) hx hb dX12_isBroken_111 (by decide) (fun c_85 => ?_) (fun c_85 => ?_)
          · skip
            rw [← Int32.toInt_inj, ti_1] at c_85
            refine lv_iconst (v := 1) hx hb dX12_isBroken_120 (by decide) ?_
            refine lv_goto (tgt := 125) hx hb dX12_isBroken_121 (by decide) ?_
            exact hcut_78 1 (by decide) ls (lv_sub hl [0, 1, 2, 3, 4, 5, 6, 7, 8] rfl)
          · skip
            rw [← Int32.toInt_inj, ti_1] at c_85
            refine lv_iload hx hb dX12_isBroken_114 (lv_at hl 1 rfl) ?_
            refine lv_iconst (v := 2) hx hb dX12_isBroken_116 (by decide) ?_
            refine lv_icmp_ne (tgt := 124) hx hb dX12_isBroken_117 (by decide) (fun c_86 => ?_) (fun c_86 => ?_)
            · skip
              rw [← Int32.toInt_inj, ti_2] at c_86
              refine lv_iconst (v := 0) hx hb dX12_isBroken_124 (by decide) ?_
              exact hcut_78 0 (by decide) ls (lv_sub hl [0, 1, 2, 3, 4, 5, 6, 7, 8] rfl)
            · skip
              rw [← Int32.toInt_inj, ti_2] at c_86
              refine lv_iconst (v := 1) hx hb dX12_isBroken_120 (by decide) ?_
              refine lv_goto (tgt := 125) hx hb dX12_isBroken_121 (by decide) ?_
              exact hcut_78 1 (by decide) ls (lv_sub hl [0, 1, 2, 3, 4, 5, 6, 7, 8] rfl)
        · skip
          rw [← Int32.toInt_inj, ti_0] at c_84
          exfalso
          omega
      · skip
        rw [← Int32.toInt_inj, ti_0] at c_76
        refine lv_iload hx hb dX12_isBroken_60 (lv_at hl 1 rfl) ?_
        refine lv_if_eq (tgt := 71) hx hb dX12_isBroken_62 (by decide) (fun c_87 => ?_) (fun c_87 => ?_)
        · skip
          rw [← Int32.toInt_inj, ti_0] at c_87
          refine lv_aload_n hx hb dX12_isBroken_71 rfl (lv_at hl 4 rfl) ?_
          refine lv_iload_n hx hb dX12_isBroken_72 rfl (lv_at hl 5 rfl) ?_
          refine lv_iload_n hx hb dX12_isBroken_73 rfl (lv_at hl 6 rfl) ?_
          refine lv_aload_n hx hb dX12_isBroken_74 rfl (lv_at hl 7 rfl) ?_
          refine lv_iload hx hb dX12_isBroken_75 (lv_at hl 8 rfl) ?_
          refine tk_ViP (As := [.int p1, .int p2, .ref o3, .int p4]) (rest := []) (n := 4) hx hb hml hown hU hN hZ (s_X12_someHolds_k12_a588 l (dC, dI) cI cL cZ cR cG cH Z kd L f hG o0 mo0 ko0 p1 (by constructor <;> omega) p2 (by constructor <;> omega) o3 mo3 ko3 p4 (by constructor <;> omega)) wd_934 wd_935 wd_936 wd_5 wd_937 (by decide +kernel) ⟨Nat.le_of_ble_eq_true rfl, Nat.le_of_ble_eq_true rfl⟩ hK hP hD hS mo0 hfo_62 12 rfl rfl rfl hl.1 rfl (Nat.le_of_ble_eq_true rfl) dX12_isBroken_77 ⟨Nat.le_of_ble_eq_true rfl, Nat.le_of_ble_eq_true rfl⟩ (fun x_88 f_89 H locs hw hP hD hS => ?_)
          obtain ⟨rfl, bx_88⟩ := hw
          refine lv_if_ne (tgt := 87) hx hb dX12_isBroken_80 (by decide) (fun c_91 => ?_) (fun c_91 => ?_)
          · skip
            rw [← Int32.toInt_inj, ti_0] at c_91
            refine lv_iconst (v := 0) hx hb dX12_isBroken_87 (by decide) ?_
            exact W.zret (v := 0) (ty := .boolean) hx hb hr rfl (fun t ht hW => ⟨⟨0, f, rfl, ⟨rfl, (by decide)⟩, by rw [ht]; exact hP, va_K.moved hW.alike hK, pl_in hD⟩, hS.F ht⟩) hS.2.2 dX12_isBroken_88
          · skip
            rw [← Int32.toInt_inj, ti_0] at c_91
            refine lv_iconst (v := 1) hx hb dX12_isBroken_83 (by decide) ?_
            refine lv_goto (tgt := 88) hx hb dX12_isBroken_84 (by decide) ?_
            exact W.zret (v := 1) (ty := .boolean) hx hb hr rfl (fun t ht hW => ⟨⟨1, f, rfl, ⟨rfl, (by decide)⟩, by rw [ht]; exact hP, va_K.moved hW.alike hK, pl_in hD⟩, hS.F ht⟩) hS.2.2 dX12_isBroken_88
        · skip
          rw [← Int32.toInt_inj, ti_0] at c_87
          refine lv_iload hx hb dX12_isBroken_65 (lv_at hl 1 rfl) ?_
          refine lv_iconst (v := 2) hx hb dX12_isBroken_67 (by decide) ?_
          refine lv_icmp_ne (tgt := 89) hx hb dX12_isBroken_68 (by decide) (fun c_92 => ?_) (fun c_92 => ?_)
          · skip
            rw [← Int32.toInt_inj, ti_2] at c_92
            refine lv_iload hx hb dX12_isBroken_89 (lv_at hl 0 rfl) ?_
            have hcut_94 : ∀ (y_93 : Int32), (0 ≤ y_93.toInt ∧ y_93.toInt ≤ 1) → ∀ (ls : Array Slot), lv_has ls 10 [(8, .int y_74), (7, .int x_64), (6, .int x_5), (5, .int x_4), (0, .ref o0), (1, .int p1), (2, .int p2), (3, .ref o3), (4, .int p4)] → W p l e (headSpec (wU yX12_isBroken cX12_isBroken 10 (some .boolean)) { frames := 5, cells := 0, slots := 0, locals := 128 }).room s m [.ref o0, .int p1, .int p2, .ref o3, .int p4].toArray below meth c H locs 0 0 (MQ below (va_Qi (fun (r : Int32) (f9 : Nat → va_E) => f = f9 ∧ (0 ≤ r.toInt ∧ r.toInt ≤ 1)) (qP (dC, dI) cI cL cZ cR cG cH L) (fun q => q ∈ L)) [.ref o0, .int p1, .int p2, .ref o3, .int p4].toArray s 0 0 (fun q => q ∈ L)) (F0 m 125 ls [.int y_93]) := by
              intro y_93 by_93 ls hl
              refine lv_istore (lv' := [(9, .int y_93), (8, .int y_74), (7, .int x_64), (6, .int x_5), (5, .int x_4), (0, .ref o0), (1, .int p1), (2, .int p2), (3, .ref o3), (4, .int p4)]) hx hb dX12_isBroken_125 hl (by decide) rfl (fun ls hl => ?_)
              refine lv_iload hx hb dX12_isBroken_127 (lv_at hl 0 rfl) ?_
              refine lv_if_eq (tgt := 148) hx hb dX12_isBroken_129 (by decide) (fun c_95 => ?_) (fun c_95 => ?_)
              · skip
                rw [← Int32.toInt_inj, ti_0] at c_95
                refine lv_iconst (v := 0) hx hb dX12_isBroken_148 (by decide) ?_
                exact W.zret (v := 0) (ty := .boolean) hx hb hr rfl (fun t ht hW => ⟨⟨0, f, rfl, ⟨rfl, (by decide)⟩, by rw [ht]; exact hP, va_K.moved hW.alike hK, pl_in hD⟩, hS.F ht⟩) hS.2.2 dX12_isBroken_149
              · skip
                rw [← Int32.toInt_inj, ti_0] at c_95
                refine lv_aload_n hx hb dX12_isBroken_132 rfl (lv_at hl 5 rfl) ?_
                refine lv_iload_n hx hb dX12_isBroken_133 rfl (lv_at hl 6 rfl) ?_
                refine lv_iload_n hx hb dX12_isBroken_134 rfl (lv_at hl 7 rfl) ?_
                refine lv_aload_n hx hb dX12_isBroken_135 rfl (lv_at hl 8 rfl) ?_
                refine lv_iload hx hb dX12_isBroken_136 (lv_at hl 9 rfl) ?_
                refine tk_ViP (As := [.int p1, .int p2, .ref o3, .int p4]) (rest := []) (n := 4) hx hb hml hown hU hN hZ (s_X12_someHolds_k12_a588 l (dC, dI) cI cL cZ cR cG cH Z kd L f hG o0 mo0 ko0 p1 (by constructor <;> omega) p2 (by constructor <;> omega) o3 mo3 ko3 p4 (by constructor <;> omega)) wd_934 wd_935 wd_936 wd_5 wd_937 (by decide +kernel) ⟨Nat.le_of_ble_eq_true rfl, Nat.le_of_ble_eq_true rfl⟩ hK hP hD hS mo0 hfo_62 12 rfl rfl rfl hl.1 rfl (Nat.le_of_ble_eq_true rfl) dX12_isBroken_138 ⟨Nat.le_of_ble_eq_true rfl, Nat.le_of_ble_eq_true rfl⟩ (fun x_96 f_97 H locs hw hP hD hS => ?_)
                obtain ⟨rfl, bx_96⟩ := hw
                refine lv_if_eq (tgt := 148) hx hb dX12_isBroken_141 (by decide) (fun c_99 => ?_) (fun c_99 => ?_)
                · skip
                  rw [← Int32.toInt_inj, ti_0] at c_99
                  refine lv_iconst (v := 0) hx hb dX12_isBroken_148 (by decide) ?_
                  exact W.zret (v := 0) (ty := .boolean) hx hb hr rfl (fun t ht hW => ⟨⟨0, f, rfl, ⟨rfl, (by decide)⟩, by rw [ht]; exact hP, va_K.moved hW.alike hK, pl_in hD⟩, hS.F ht⟩) hS.2.2 dX12_isBroken_149
                · skip
                  rw [← Int32.toInt_inj, ti_0] at c_99
                  refine lv_iconst (v := 1) hx hb dX12_isBroken_144 (by decide) ?_
                  refine lv_goto (tgt := 149) hx hb dX12_isBroken_145 (by decide) ?_
                  exact W.zret (v := 1) (ty := .boolean) hx hb hr rfl (fun t ht hW => ⟨⟨1, f, rfl, ⟨rfl, (by decide)⟩, by rw [ht]; exact hP, va_K.moved hW.alike hK, pl_in hD⟩, hS.F ht⟩) hS.2.2 dX12_isBroken_149
            refine lv_if_eq (tgt := 108) hx hb dX12_isBroken_91 (by decide) (fun c_100 => ?_) (fun c_100 => ?_)
            · skip
              rw [← Int32.toInt_inj, ti_0] at c_100
              exfalso
              omega
            · skip
              rw [← Int32.toInt_inj, ti_0] at c_100
              refine lv_iload hx hb dX12_isBroken_94 (lv_at hl 1 rfl) ?_
              refine lv_iconst (v := 3) hx hb dX12_isBroken_96 (by decide) ?_
              refine lv_icmp_ne (tgt := 104) hx hb dX12_isBroken_97 (by decide) (fun c_101 => ?_) (fun c_101 => ?_)
              · skip
                rw [← Int32.toInt_inj, ti_3] at c_101
                refine lv_iconst (v := 0) hx hb dX12_isBroken_104 (by decide) ?_
                refine lv_goto (tgt := 125) hx hb dX12_isBroken_105 (by decide) ?_
                exact hcut_94 0 (by decide) ls (lv_sub hl [0, 1, 2, 3, 4, 5, 6, 7, 8] rfl)
              · skip
                rw [← Int32.toInt_inj, ti_3] at c_101
                refine lv_iconst (v := 1) hx hb dX12_isBroken_100 (by decide) ?_
                refine lv_goto (tgt := 125) hx hb dX12_isBroken_101 (by decide) ?_
                exact hcut_94 1 (by decide) ls (lv_sub hl [0, 1, 2, 3, 4, 5, 6, 7, 8] rfl)
          · skip
            rw [← Int32.toInt_inj, ti_2] at c_92
            refine lv_aload_n hx hb dX12_isBroken_71 rfl (lv_at hl 4 rfl) ?_
            refine lv_iload_n hx hb dX12_isBroken_72 rfl (lv_at hl 5 rfl) ?_
            refine lv_iload_n hx hb dX12_isBroken_73 rfl (lv_at hl 6 rfl) ?_
            refine lv_aload_n hx hb dX12_isBroken_74 rfl (lv_at hl 7 rfl) ?_
            refine lv_iload hx hb dX12_isBroken_75 (lv_at hl 8 rfl) ?_
            refine tk_ViP (As := [.int p1, .int p2, .ref o3, .int p4]) (rest := []) (n := 4) hx hb hml hown hU hN hZ (s_X12_someHolds_k12_a588 l (dC, dI) cI cL cZ cR cG cH Z kd L f hG o0 mo0 ko0 p1 (by constructor <;> omega) p2 (by constructor <;> omega) o3 mo3 ko3 p4 (by constructor <;> omega)) wd_934 wd_935 wd_936 wd_5 wd_937 (by decide +kernel) ⟨Nat.le_of_ble_eq_true rfl, Nat.le_of_ble_eq_true rfl⟩ hK hP hD hS mo0 hfo_62 12 rfl rfl rfl hl.1 rfl (Nat.le_of_ble_eq_true rfl) dX12_isBroken_77 ⟨Nat.le_of_ble_eq_true rfl, Nat.le_of_ble_eq_true rfl⟩ (fun x_102 f_103 H locs hw hP hD hS => ?_)
            obtain ⟨rfl, bx_102⟩ := hw
            refine lv_if_ne (tgt := 87) hx hb dX12_isBroken_80 (by decide) (fun c_105 => ?_) (fun c_105 => ?_)
            · skip
              rw [← Int32.toInt_inj, ti_0] at c_105
              refine lv_iconst (v := 0) hx hb dX12_isBroken_87 (by decide) ?_
              exact W.zret (v := 0) (ty := .boolean) hx hb hr rfl (fun t ht hW => ⟨⟨0, f, rfl, ⟨rfl, (by decide)⟩, by rw [ht]; exact hP, va_K.moved hW.alike hK, pl_in hD⟩, hS.F ht⟩) hS.2.2 dX12_isBroken_88
            · skip
              rw [← Int32.toInt_inj, ti_0] at c_105
              refine lv_iconst (v := 1) hx hb dX12_isBroken_83 (by decide) ?_
              refine lv_goto (tgt := 88) hx hb dX12_isBroken_84 (by decide) ?_
              exact W.zret (v := 1) (ty := .boolean) hx hb hr rfl (fun t ht hW => ⟨⟨1, f, rfl, ⟨rfl, (by decide)⟩, by rw [ht]; exact hP, va_K.moved hW.alike hK, pl_in hD⟩, hS.F ht⟩) hS.2.2 dX12_isBroken_88
    refine lv_icmp_ne (tgt := 52) hx hb dX12_isBroken_45 (by decide) (fun c_106 => ?_) (fun c_106 => ?_)
    · skip
      rw [← Int32.toInt_inj] at c_106
      refine lv_iconst (v := 0) hx hb dX12_isBroken_52 (by decide) ?_
      exact hcut_75 0 (by decide) ls (lv_sub hl [0, 1, 2, 3, 4, 5, 6, 7] rfl)
    · skip
      rw [← Int32.toInt_inj] at c_106
      refine lv_iconst (v := 1) hx hb dX12_isBroken_48 (by decide) ?_
      refine lv_goto (tgt := 53) hx hb dX12_isBroken_49 (by decide) ?_
      exact hcut_75 1 (by decide) ls (lv_sub hl [0, 1, 2, 3, 4, 5, 6, 7] rfl)
  · skip
    rw [← Int32.toInt_inj] at c_70
    refine lv_iconst (v := 0) hx hb dX12_isBroken_35 (by decide) ?_
    exact W.zret (v := 0) (ty := .boolean) hx hb hr rfl (fun t ht hW => ⟨⟨0, f, rfl, ⟨rfl, (by decide)⟩, by rw [ht]; exact hP, va_K.moved hW.alike hK, pl_in hD⟩, hS.F ht⟩) hS.2.2 dX12_isBroken_36
set_option maxHeartbeats 8000000 in
set_option maxRecDepth 100000 in
theorem s_X12_begins_k12 (l : Launch) (D : va_G) (cI cL cZ cR cG cH : ClassId) (Z : zT) (kd : Nat → Nat) (L : List Nat) (f : Nat → va_E) (hG : GI (okc cI cL cZ cR cG cH L kd) kd L f) (o0 : Nat) (mo0 : o0 ∈ L) (ko0 : kd o0 = 12) : mPV l D cI cL cZ cR cG cH Z yX12_begins cX12_begins 2 none 2 47 [.ref o0] L f (fun (f9 : Nat → va_E) => GI (okc cI cL cZ cR cG cH L kd) kd L f9 ∧ (∀ b, kd b ≠ 579 → kd b ≠ 581 → kd b ≠ 587 → f9 b = f b)) := by
  obtain ⟨dC, dI⟩ := D
  refine Met.ofW (cc := cX12_begins) (maxL := 2) (ret := none) (by decide) rfl ?_
  intro p e s m args below meth c s₁ B hml hv
  obtain ⟨rfl, hP, hK, hD0, hN, hZ⟩ := hv
  have hx := B.exec
  have hb := B.bytes
  have hr := B.returns
  have hU : ∀ w ∈ wsU, w.before _ s = true := fun w h => atoms_spec (ws := wU yX12_begins cX12_begins 2 none) B.pre w (List.mem_cons_of_mem _ h)
  have hown : s.vm.findClass RX12 = some m.cls := findClass_of_methodNamed B.named
  have hlocks := B.notSynchronized
  have hD := pl_in hD0
  have hS : va_S (fun q => q ∈ L) s.heap s.heap [] := va_S.rf
  have hl := lv_entry ([.ref o0]) (n := 2) (Nat.le_of_ble_eq_true rfl)
  rw [lg_entry_eq]
  generalize (lg_sl ([.ref o0]) ++ List.replicate (2 - (lg_sl ([.ref o0])).length) Slot.unset).toArray = ls at hl ⊢
  have hl : lv_has ls 2 [(0, .ref o0)] := hl
  have hfr0 : ∀ b, kd b ≠ 579 → kd b ≠ 581 → kd b ≠ 587 → f b = f b := fun _ _ _ _ => rfl
  refine lv_iconst (v := 0) hx hb dX12_begins_0 (by decide) ?_
  refine lv_istore_n (lv' := [(1, .int 0), (0, .ref o0)]) hx hb dX12_begins_1 rfl hl (by decide) rfl (fun ls hl => ?_)
  have hloop_13 : ∀ (n : Nat), ∀ (y_14 : Int32), (0 ≤ y_14.toInt ∧ y_14.toInt ≤ 24) → ∀ (f_16 : Nat → va_E), GI (okc cI cL cZ cR cG cH L kd) kd L f_16 → ∀ (H : Heap) (locs : List Loc), va_P (dC, dI) vwCl (va_pl L f_16) H → va_S (fun q => q ∈ L) s.heap H locs → va_D (fun q => q ∈ L) (va_pl L f_16) → (∀ b, kd b ≠ 579 → kd b ≠ 581 → kd b ≠ 587 → f_16 b = f b) → 24 - y_14.toInt < (n : Int) → ∀ (ls : Array Slot), lv_has ls 2 [(1, .int y_14), (0, .ref o0)] → W p l e (headSpec (wU yX12_begins cX12_begins 2 none) { frames := 2, cells := 0, slots := 0, locals := 47 }).room s m [.ref o0].toArray below meth c H locs 0 0 (MQ below (va_Qv (fun (f9 : Nat → va_E) => GI (okc cI cL cZ cR cG cH L kd) kd L f9 ∧ (∀ b, kd b ≠ 579 → kd b ≠ 581 → kd b ≠ 587 → f9 b = f b)) (qP (dC, dI) cI cL cZ cR cG cH L) (fun q => q ∈ L)) [.ref o0].toArray s 0 0 (fun q => q ∈ L)) (F0 m 2 ls []) := by
    intro n
    induction n with
    | zero => intro y_14 by_14 f_16 hG H locs hP hS hD hfr0 hmuhloop_13 ls hl; exfalso; omega
    | succ n ih_hloop_13 =>
      intro y_14 by_14 f_16 hG H locs hP hS hD hfr0 hmuhloop_13 ls hl
      refine lv_iload_n hx hb dX12_begins_2 rfl (lv_at hl 0 rfl) ?_
      refine lv_iconst (v := 3) hx hb dX12_begins_3 (by decide) ?_
      refine lv_aload_n hx hb dX12_begins_4 rfl (lv_at hl 1 rfl) ?_
      obtain ⟨a_17, a_18, a_19, v_20, a_21, v_22, v_23, v_24, v_25, v_26, v_27, v_28, v_29, v_30, v_31, a_32, a_33, a_34, a_35, a_36, a_37, a_38, a_39, v_40, v_41, v_42, v_43, v_44, a_45, v_46, a_47, a_48, v_49, v_50, a_51, v_52, a_53, a_54, v_55, v_56, a_57, a_58, a_59, v_60, a_61, a_62, a_63, a_64, a_65, a_66, a_67, a_68, a_69, v_70, v_71, a_72, hfo_73, fa_74⟩ := un12 (hG _ mo0) ko0
      obtain ⟨ma_17, ka_17⟩ := fa12_0 fa_74
      obtain ⟨ma_32, ka_32⟩ := fa12_15 fa_74
      obtain ⟨ma_33, ka_33⟩ := fa12_16 fa_74
      obtain ⟨ma_36, ka_36⟩ := fa12_19 fa_74
      refine tk_getP (D := (dC, dI)) (ci := 12) (v := .ref a_17) (C := RX12) (T := TX12) (N := 56) hx hb hU inlX12 hown hK hP mo0 hfo_73 rfl 0 (by decide) (hU _ wd_169) (fun _ h9 => h9) rfl dX12_begins_5 ?_
      refine lv_bipush (v := 17) hx hb dX12_begins_8 (by decide) ?_
      obtain ⟨g_76, hfo_75, hbg_76⟩ := un_575 (hG _ ma_17) ka_17
      refine tk_ildP hx hb hK hP 0 ma_17 hfo_75 rfl (vp_in_nI (n := 17) (by decide) (by decide)) dX12_begins_10 ?_
      refine lv_topi (fun x_77 ex_77 => ?_)
      have bx_77 : (0 ≤ x_77.toInt ∧ x_77.toInt ≤ 8) := by rw [ex_77]; exact hbg_76.2.2.1 _ (by decide) (by decide) (by decide)
      refine lv_imul hx hb dX12_begins_11 ?_
      refine lv_topi (fun x_78 ex_78 => ?_)
      have hx_78 : x_78.toInt = 3 * x_77.toInt := by rw [ex_78, ml_I (by rw [ti_3]; omega) (by rw [ti_3]; omega), ti_3]
      have bx_78 : (0 ≤ x_78.toInt ∧ x_78.toInt ≤ 24) := by constructor <;> omega
      refine lv_icmp_ge (tgt := 45) hx hb dX12_begins_12 (by decide) (fun c_79 => ?_) (fun c_79 => ?_)
      · skip
        rw [Int32.le_iff_toInt_le] at c_79
        refine lv_aload_n hx hb dX12_begins_45 rfl (lv_at hl 1 rfl) ?_
        refine tk_getP (D := (dC, dI)) (ci := 12) (v := .ref a_36) (C := RX12) (T := TX12) (N := 56) hx hb hU inlX12 hown hK hP mo0 hfo_73 rfl 19 (by decide) (hU _ wd_179) (fun _ h9 => h9) rfl dX12_begins_46 ?_
        refine lv_iconst (v := 0) hx hb dX12_begins_49 (by decide) ?_
        refine lv_iconst (v := 0) hx hb dX12_begins_50 (by decide) ?_
        obtain ⟨g_81, hfo_80, hbg_81⟩ := un_587 (hG _ ma_36) ka_36
        refine tk_istP hx hb hK hP hD hS 0 ma_36 hfo_80 rfl (vp_in_nI (n := 0) (by decide) (by decide)) dX12_begins_51 (fun H locs hP hD hS => ?_)
        have hc9 : ((Int32.toNatClampNeg 0 : Nat) : Int) = 0 := by decide
        obtain ⟨f_83, ef_83⟩ : ∃ y : Nat → va_E, y = va_up f_16 a_36 (.inl (cI, 20, .inl (upd g_81 (Int32.toNatClampNeg 0) 0))) := ⟨_, rfl⟩
        have hP : va_P (dC, dI) vwCl (va_pl L f_83) H := by rw [ef_83]; exact hP
        have hD : va_D (fun q => q ∈ L) (va_pl L f_83) := by rw [ef_83]; exact hD
        have hG : GI (okc cI cL cZ cR cG cH L kd) kd L f_83 := by rw [ef_83]; exact hG.set a_36 (mk_587 ka_36 ⟨_, rfl, by intro j; by_cases hj : j = Int32.toNatClampNeg 0; (· subst hj; rw [pk_us]; (try rw [ti_0]); constructor <;> omega); (· rw [pk_un hj]; exact hbg_81 j)⟩)
        have hfo_84 : f_83 o0 = .inr (12, [.ref a_17, .ref a_18, .ref a_19, .int v_20, .ref a_21, .int v_22, .int v_23, .int v_24, .int v_25, .int v_26, .int v_27, .int v_28, .int v_29, .int v_30, .int v_31, .ref a_32, .ref a_33, .ref a_34, .ref a_35, .ref a_36, .ref a_37, .ref a_38, .ref a_39, .int v_40, .int v_41, .int v_42, .int v_43, .int v_44, .ref a_45, .int v_46, .ref a_47, .ref a_48, .int v_49, .int v_50, .ref a_51, .int v_52, .ref a_53, .ref a_54, .int v_55, .int v_56, .ref a_57, .ref a_58, .ref a_59, .int v_60, .ref a_61, .ref a_62, .ref a_63, .ref a_64, .ref a_65, .ref a_66, .ref a_67, .ref a_68, .ref a_69, .int v_70, .int v_71, .ref a_72]) := by rw [ef_83, up_ne (kd_ne ka_36 ko0 (by decide))]; exact hfo_73
        have hfo_85 : f_83 a_17 = .inl (cI, 1560, .inl g_76) := by rw [ef_83, up_ne (kd_ne ka_36 ka_17 (by decide))]; exact hfo_75
        have hfr0 : ∀ b, kd b ≠ 579 → kd b ≠ 581 → kd b ≠ 587 → f_83 b = f b := fun b q579 q581 q587 => (congrFun ef_83 b).trans ((up_ne (fun e9 => q587 (by rw [e9]; exact ka_36))).trans (hfr0 b q579 q581 q587))
        have hfo_86 : f_83 a_36 = .inl (cI, 20, .inl (upd g_81 (Int32.toNatClampNeg 0) 0)) := by rw [ef_83]; exact up_self
        exact W.vret hx hb hr (fun t ht hW => ⟨⟨f_83, rfl, ⟨hG, hfr0⟩, by rw [ht]; exact hP, va_K.moved hW.alike hK, pl_in hD⟩, hS.F ht⟩) hS.2.2 dX12_begins_52
      · skip
        rw [Int32.le_iff_toInt_le] at c_79
        refine lv_aload_n hx hb dX12_begins_15 rfl (lv_at hl 1 rfl) ?_
        refine tk_getP (D := (dC, dI)) (ci := 12) (v := .ref a_32) (C := RX12) (T := TX12) (N := 56) hx hb hU inlX12 hown hK hP mo0 hfo_73 rfl 15 (by decide) (hU _ wd_175) (fun _ h9 => h9) rfl dX12_begins_16 ?_
        refine lv_iconst (v := 0) hx hb dX12_begins_19 (by decide) ?_
        obtain ⟨g_88, hfo_87, hbg_88⟩ := un_580 (hG _ ma_32) ka_32
        obtain ⟨a_89, hga_89, ma_89, ka_89⟩ := hbg_88 (Int32.toNatClampNeg 0) (in_lt (vp_in_nI (n := 0) (by decide) (by decide)))
        refine tk_aldA hx hb hK hP 4 ma_32 hfo_87 rfl (vp_in_nI (n := 0) (by decide) (by decide)) hga_89 dX12_begins_20 ?_
        refine lv_iload_n hx hb dX12_begins_21 rfl (lv_at hl 0 rfl) ?_
        refine lv_aload_n hx hb dX12_begins_22 rfl (lv_at hl 1 rfl) ?_
        refine lv_iload_n hx hb dX12_begins_23 rfl (lv_at hl 0 rfl) ?_
        refine lv_iconst (v := 0) hx hb dX12_begins_24 (by decide) ?_
        refine lv_iconst (v := 1) hx hb dX12_begins_25 (by decide) ?_
        refine tk_ViP (As := [.int y_14, .int 0, .int 1]) (rest := [.int y_14, .ref a_89]) (n := 3) hx hb hml hown hU hN hZ (s_X12_closed_k12 l (dC, dI) cI cL cZ cR cG cH Z kd L f_16 hG o0 mo0 ko0 y_14 (by constructor <;> omega) 0 (by decide) 1 (by decide)) wd_878 wd_879 wd_880 wd_5 wd_881 (by decide +kernel) ⟨Nat.le_of_ble_eq_true rfl, Nat.le_of_ble_eq_true rfl⟩ hK hP hD hS mo0 hfo_73 12 rfl rfl rfl hl.1 rfl (Nat.le_of_ble_eq_true rfl) dX12_begins_26 ⟨Nat.le_of_ble_eq_true rfl, Nat.le_of_ble_eq_true rfl⟩ (fun x_90 f_91 H locs hw hP hD hS => ?_)
        obtain ⟨rfl, bx_90⟩ := hw
        obtain ⟨g_94, hfo_93, hbg_94⟩ := un_579 (hG _ ma_89) ka_89
        refine tk_istP hx hb hK hP hD hS 0 ma_89 hfo_93 rfl (vp_in_iff.mpr (by constructor <;> omega)) dX12_begins_29 (fun H locs hP hD hS => ?_)
        obtain ⟨f_96, ef_96⟩ : ∃ y : Nat → va_E, y = va_up f_16 a_89 (.inl (cI, 24, .inl (upd g_94 (Int32.toNatClampNeg y_14) x_90))) := ⟨_, rfl⟩
        have hP : va_P (dC, dI) vwCl (va_pl L f_96) H := by rw [ef_96]; exact hP
        have hD : va_D (fun q => q ∈ L) (va_pl L f_96) := by rw [ef_96]; exact hD
        have hG : GI (okc cI cL cZ cR cG cH L kd) kd L f_96 := by rw [ef_96]; exact hG.set a_89 (mk_579 ka_89 ⟨_, rfl, okI_up hbg_94 ⟨i32_lo _, i32_hi _⟩ _⟩)
        have hfo_97 : f_96 o0 = .inr (12, [.ref a_17, .ref a_18, .ref a_19, .int v_20, .ref a_21, .int v_22, .int v_23, .int v_24, .int v_25, .int v_26, .int v_27, .int v_28, .int v_29, .int v_30, .int v_31, .ref a_32, .ref a_33, .ref a_34, .ref a_35, .ref a_36, .ref a_37, .ref a_38, .ref a_39, .int v_40, .int v_41, .int v_42, .int v_43, .int v_44, .ref a_45, .int v_46, .ref a_47, .ref a_48, .int v_49, .int v_50, .ref a_51, .int v_52, .ref a_53, .ref a_54, .int v_55, .int v_56, .ref a_57, .ref a_58, .ref a_59, .int v_60, .ref a_61, .ref a_62, .ref a_63, .ref a_64, .ref a_65, .ref a_66, .ref a_67, .ref a_68, .ref a_69, .int v_70, .int v_71, .ref a_72]) := by rw [ef_96, up_ne (kd_ne ka_89 ko0 (by decide))]; exact hfo_73
        have hfo_98 : f_96 a_17 = .inl (cI, 1560, .inl g_76) := by rw [ef_96, up_ne (kd_ne ka_89 ka_17 (by decide))]; exact hfo_75
        have hfo_99 : f_96 a_32 = .inl (cG, 20, .inr (.inr (.inr (.inr g_88)))) := by rw [ef_96, up_ne (kd_ne ka_89 ka_32 (by decide))]; exact hfo_87
        have hfr0 : ∀ b, kd b ≠ 579 → kd b ≠ 581 → kd b ≠ 587 → f_96 b = f b := fun b q579 q581 q587 => (congrFun ef_96 b).trans ((up_ne (fun e9 => q579 (by rw [e9]; exact ka_89))).trans (hfr0 b q579 q581 q587))
        have hfo_100 : f_96 a_89 = .inl (cI, 24, .inl (upd g_94 (Int32.toNatClampNeg y_14) x_90)) := by rw [ef_96]; exact up_self
        refine lv_aload_n hx hb dX12_begins_30 rfl (lv_at hl 1 rfl) ?_
        refine tk_getP (D := (dC, dI)) (ci := 12) (v := .ref a_33) (C := RX12) (T := TX12) (N := 56) hx hb hU inlX12 hown hK hP mo0 hfo_97 rfl 16 (by decide) (hU _ wd_176) (fun _ h9 => h9) rfl dX12_begins_31 ?_
        refine lv_iconst (v := 0) hx hb dX12_begins_34 (by decide) ?_
        obtain ⟨g_102, hfo_101, hbg_102⟩ := un_582 (hG _ ma_33) ka_33
        obtain ⟨a_103, hga_103, ma_103, ka_103⟩ := hbg_102 (Int32.toNatClampNeg 0) (in_lt (vp_in_nI (n := 0) (by decide) (by decide)))
        refine tk_aldA hx hb hK hP 4 ma_33 hfo_101 rfl (vp_in_nI (n := 0) (by decide) (by decide)) hga_103 dX12_begins_35 ?_
        refine lv_iload_n hx hb dX12_begins_36 rfl (lv_at hl 0 rfl) ?_
        refine lv_iconst (v := 0) hx hb dX12_begins_37 (by decide) ?_
        obtain ⟨g_105, hfo_104, hbg_105⟩ := un_581 (hG _ ma_103) ka_103
        refine tk_istP hx hb hK hP hD hS 0 ma_103 hfo_104 rfl (vp_in_iff.mpr (by constructor <;> omega)) dX12_begins_38 (fun H locs hP hD hS => ?_)
        obtain ⟨f_107, ef_107⟩ : ∃ y : Nat → va_E, y = va_up f_96 a_103 (.inl (cI, 24, .inl (upd g_105 (Int32.toNatClampNeg y_14) 0))) := ⟨_, rfl⟩
        have hP : va_P (dC, dI) vwCl (va_pl L f_107) H := by rw [ef_107]; exact hP
        have hD : va_D (fun q => q ∈ L) (va_pl L f_107) := by rw [ef_107]; exact hD
        have hG : GI (okc cI cL cZ cR cG cH L kd) kd L f_107 := by rw [ef_107]; exact hG.set a_103 (mk_581 ka_103 ⟨_, rfl, okI_up hbg_105 ⟨i32_lo _, i32_hi _⟩ _⟩)
        have hfo_108 : f_107 o0 = .inr (12, [.ref a_17, .ref a_18, .ref a_19, .int v_20, .ref a_21, .int v_22, .int v_23, .int v_24, .int v_25, .int v_26, .int v_27, .int v_28, .int v_29, .int v_30, .int v_31, .ref a_32, .ref a_33, .ref a_34, .ref a_35, .ref a_36, .ref a_37, .ref a_38, .ref a_39, .int v_40, .int v_41, .int v_42, .int v_43, .int v_44, .ref a_45, .int v_46, .ref a_47, .ref a_48, .int v_49, .int v_50, .ref a_51, .int v_52, .ref a_53, .ref a_54, .int v_55, .int v_56, .ref a_57, .ref a_58, .ref a_59, .int v_60, .ref a_61, .ref a_62, .ref a_63, .ref a_64, .ref a_65, .ref a_66, .ref a_67, .ref a_68, .ref a_69, .int v_70, .int v_71, .ref a_72]) := by rw [ef_107, up_ne (kd_ne ka_103 ko0 (by decide))]; exact hfo_97
        have hfo_109 : f_107 a_17 = .inl (cI, 1560, .inl g_76) := by rw [ef_107, up_ne (kd_ne ka_103 ka_17 (by decide))]; exact hfo_98
        have hfo_110 : f_107 a_32 = .inl (cG, 20, .inr (.inr (.inr (.inr g_88)))) := by rw [ef_107, up_ne (kd_ne ka_103 ka_32 (by decide))]; exact hfo_99
        have hfo_111 : f_107 a_33 = .inl (cG, 20, .inr (.inr (.inr (.inr g_102)))) := by rw [ef_107, up_ne (kd_ne ka_103 ka_33 (by decide))]; exact hfo_101
        have hfr0 : ∀ b, kd b ≠ 579 → kd b ≠ 581 → kd b ≠ 587 → f_107 b = f b := fun b q579 q581 q587 => (congrFun ef_107 b).trans ((up_ne (fun e9 => q581 (by rw [e9]; exact ka_103))).trans (hfr0 b q579 q581 q587))
        have hfo_112 : f_107 a_103 = .inl (cI, 24, .inl (upd g_105 (Int32.toNatClampNeg y_14) 0)) := by rw [ef_107]; exact up_self
        obtain ⟨x_113, ex_113⟩ : ∃ y : Int32, y_14 + 1 = y := ⟨_, rfl⟩
        have hx_113 : x_113.toInt = y_14.toInt + 1 := by rw [← ex_113, ad_I (by rw [ti_1]; omega) (by rw [ti_1]; omega), ti_1]
        have bx_113 : (1 ≤ x_113.toInt ∧ x_113.toInt ≤ 24) := by constructor <;> omega
        refine lv_iinc (v := x_113) (lv' := [(1, .int x_113), (0, .ref o0)]) hx hb dX12_begins_39 hl (k := 0) rfl ex_113 (by decide) rfl (fun ls hl => ?_)
        refine lv_goto (tgt := 2) hx hb dX12_begins_42 (by decide) ?_
        exact ih_hloop_13 x_113 (by constructor <;> omega) f_107 hG _ _ hP hS hD hfr0 (by omega) ls (lv_sub hl [0, 1] rfl)
  exact hloop_13 25 0 (by decide) f hG _ _ hP hS hD hfr0 (by (try rw [ti_0]) <;> omega) ls hl
set_option maxHeartbeats 8000000 in
set_option maxRecDepth 100000 in
theorem s_X12_isMet_k12 (l : Launch) (D : va_G) (cI cL cZ cR cG cH : ClassId) (Z : zT) (kd : Nat → Nat) (L : List Nat) (f : Nat → va_E) (hG : GI (okc cI cL cZ cR cG cH L kd) kd L f) (o0 : Nat) (mo0 : o0 ∈ L) (ko0 : kd o0 = 12) (p1 : Int32) (bp1 : (0 ≤ p1.toInt ∧ p1.toInt ≤ 23)) (p2 : Int32) : mPI l D cI cL cZ cR cG cH Z yX12_isMet cX12_isMet 3 (some .boolean) 2 45 [.ref o0, .int p1, .int p2] L f (fun (r : Int32) (f9 : Nat → va_E) => f = f9 ∧ (0 ≤ r.toInt ∧ r.toInt ≤ 1)) := by
  obtain ⟨dC, dI⟩ := D
  refine Met.ofW (cc := cX12_isMet) (maxL := 3) (ret := (some .boolean)) (by decide) rfl ?_
  intro p e s m args below meth c s₁ B hml hv
  obtain ⟨rfl, hP, hK, hD0, hN, hZ⟩ := hv
  have hx := B.exec
  have hb := B.bytes
  have hr := B.returns
  have hU : ∀ w ∈ wsU, w.before _ s = true := fun w h => atoms_spec (ws := wU yX12_isMet cX12_isMet 3 (some .boolean)) B.pre w (List.mem_cons_of_mem _ h)
  have hown : s.vm.findClass RX12 = some m.cls := findClass_of_methodNamed B.named
  have hlocks := B.notSynchronized
  have hD := pl_in hD0
  have hS : va_S (fun q => q ∈ L) s.heap s.heap [] := va_S.rf
  have hl := lv_entry ([.ref o0, .int p1, .int p2]) (n := 3) (Nat.le_of_ble_eq_true rfl)
  rw [lg_entry_eq]
  generalize (lg_sl ([.ref o0, .int p1, .int p2]) ++ List.replicate (3 - (lg_sl ([.ref o0, .int p1, .int p2])).length) Slot.unset).toArray = ls at hl ⊢
  have hl : lv_has ls 3 [(0, .ref o0), (1, .int p1), (2, .int p2)] := hl
  have bp2 : ((-2147483648) ≤ p2.toInt ∧ p2.toInt ≤ 2147483647) := ⟨i32_lo _, i32_hi _⟩
  refine lv_aload_n hx hb dX12_isMet_0 rfl (lv_at hl 0 rfl) ?_
  refine lv_iload_n hx hb dX12_isMet_1 rfl (lv_at hl 1 rfl) ?_
  refine lv_iconst (v := 1) hx hb dX12_isMet_2 (by decide) ?_
  obtain ⟨a_1, a_2, a_3, v_4, a_5, v_6, v_7, v_8, v_9, v_10, v_11, v_12, v_13, v_14, v_15, a_16, a_17, a_18, a_19, a_20, a_21, a_22, a_23, v_24, v_25, v_26, v_27, v_28, a_29, v_30, a_31, a_32, v_33, v_34, a_35, v_36, a_37, a_38, v_39, v_40, a_41, a_42, a_43, v_44, a_45, a_46, a_47, a_48, a_49, a_50, a_51, a_52, a_53, v_54, v_55, a_56, hfo_57, fa_58⟩ := un12 (hG _ mo0) ko0
  refine tk_ViP (As := [.int p1, .int 1]) (rest := []) (n := 2) hx hb hml hown hU hN hZ (s_X12_isAnchored_k12 l (dC, dI) cI cL cZ cR cG cH Z kd L f hG o0 mo0 ko0 p1 (by constructor <;> omega) 1 (by decide)) wd_946 wd_947 wd_948 wd_5 wd_949 (by decide +kernel) ⟨Nat.le_of_ble_eq_true rfl, Nat.le_of_ble_eq_true rfl⟩ hK hP hD hS mo0 hfo_57 12 rfl rfl rfl hl.1 rfl (Nat.le_of_ble_eq_true rfl) dX12_isMet_3 ⟨Nat.le_of_ble_eq_true rfl, Nat.le_of_ble_eq_true rfl⟩ (fun x_59 f_60 H locs hw hP hD hS => ?_)
  obtain ⟨rfl, bx_59⟩ := hw
  refine lv_if_ne (tgt := 23) hx hb dX12_isMet_6 (by decide) (fun c_62 => ?_) (fun c_62 => ?_)
  · skip
    rw [← Int32.toInt_inj, ti_0] at c_62
    refine lv_iconst (v := 0) hx hb dX12_isMet_23 (by decide) ?_
    exact W.zret (v := 0) (ty := .boolean) hx hb hr rfl (fun t ht hW => ⟨⟨0, f, rfl, ⟨rfl, (by decide)⟩, by rw [ht]; exact hP, va_K.moved hW.alike hK, pl_in hD⟩, hS.F ht⟩) hS.2.2 dX12_isMet_24
  · skip
    rw [← Int32.toInt_inj, ti_0] at c_62
    refine lv_aload_n hx hb dX12_isMet_9 rfl (lv_at hl 0 rfl) ?_
    refine lv_iload_n hx hb dX12_isMet_10 rfl (lv_at hl 1 rfl) ?_
    refine lv_iconst (v := 1) hx hb dX12_isMet_11 (by decide) ?_
    refine lv_iload_n hx hb dX12_isMet_12 rfl (lv_at hl 2 rfl) ?_
    refine tk_ViP (As := [.int p1, .int 1, .int p2]) (rest := []) (n := 3) hx hb hml hown hU hN hZ (s_X12_isDone_k12 l (dC, dI) cI cL cZ cR cG cH Z kd L f hG o0 mo0 ko0 p1 (by constructor <;> omega) 1 (by decide) p2) wd_898 wd_899 wd_900 wd_5 wd_901 (by decide +kernel) ⟨Nat.le_of_ble_eq_true rfl, Nat.le_of_ble_eq_true rfl⟩ hK hP hD hS mo0 hfo_57 12 rfl rfl rfl hl.1 rfl (Nat.le_of_ble_eq_true rfl) dX12_isMet_13 ⟨Nat.le_of_ble_eq_true rfl, Nat.le_of_ble_eq_true rfl⟩ (fun x_63 f_64 H locs hw hP hD hS => ?_)
    obtain ⟨rfl, bx_63⟩ := hw
    refine lv_if_eq (tgt := 23) hx hb dX12_isMet_16 (by decide) (fun c_66 => ?_) (fun c_66 => ?_)
    · skip
      rw [← Int32.toInt_inj, ti_0] at c_66
      refine lv_iconst (v := 0) hx hb dX12_isMet_23 (by decide) ?_
      exact W.zret (v := 0) (ty := .boolean) hx hb hr rfl (fun t ht hW => ⟨⟨0, f, rfl, ⟨rfl, (by decide)⟩, by rw [ht]; exact hP, va_K.moved hW.alike hK, pl_in hD⟩, hS.F ht⟩) hS.2.2 dX12_isMet_24
    · skip
      rw [← Int32.toInt_inj, ti_0] at c_66
      refine lv_iconst (v := 1) hx hb dX12_isMet_19 (by decide) ?_
      refine lv_goto (tgt := 24) hx hb dX12_isMet_20 (by decide) ?_
      exact W.zret (v := 1) (ty := .boolean) hx hb hr rfl (fun t ht hW => ⟨⟨1, f, rfl, ⟨rfl, (by decide)⟩, by rw [ht]; exact hP, va_K.moved hW.alike hK, pl_in hD⟩, hS.F ht⟩) hS.2.2 dX12_isMet_24
set_option maxHeartbeats 8000000 in
set_option maxRecDepth 100000 in
theorem s_X12_needsGoOn_k12 (l : Launch) (D : va_G) (cI cL cZ cR cG cH : ClassId) (Z : zT) (kd : Nat → Nat) (L : List Nat) (f : Nat → va_E) (hG : GI (okc cI cL cZ cR cG cH L kd) kd L f) (o0 : Nat) (mo0 : o0 ∈ L) (ko0 : kd o0 = 12) (p1 : Int32) (bp1 : (0 ≤ p1.toInt ∧ p1.toInt ≤ 13)) (p2 : Int32) : mPI l D cI cL cZ cR cG cH Z yX12_needsGoOn cX12_needsGoOn 10 (some .boolean) 3 76 [.ref o0, .int p1, .int p2] L f (fun (r : Int32) (f9 : Nat → va_E) => GI (okc cI cL cZ cR cG cH L kd) kd L f9 ∧ (0 ≤ r.toInt ∧ r.toInt ≤ 1) ∧ (∀ b, kd b ≠ 583 → kd b ≠ 585 → kd b ≠ 587 → f9 b = f b) ∧ (∀ b9 g9, fldR (f9 o0) 19 = some b9 → f9 b9 = .inl (cI, 20, .inl g9) → r.toInt = 0 ∨ ∀ j : Nat, (j : Int) = p1.toInt + 1 → (g9 j).toInt ≤ 8 * p1.toInt)) := by
  obtain ⟨dC, dI⟩ := D
  refine Met.ofW (cc := cX12_needsGoOn) (maxL := 10) (ret := (some .boolean)) (by decide) rfl ?_
  intro p e s m args below meth c s₁ B hml hv
  obtain ⟨rfl, hP, hK, hD0, hN, hZ⟩ := hv
  have hx := B.exec
  have hb := B.bytes
  have hr := B.returns
  have hU : ∀ w ∈ wsU, w.before _ s = true := fun w h => atoms_spec (ws := wU yX12_needsGoOn cX12_needsGoOn 10 (some .boolean)) B.pre w (List.mem_cons_of_mem _ h)
  have hown : s.vm.findClass RX12 = some m.cls := findClass_of_methodNamed B.named
  have hlocks := B.notSynchronized
  have hD := pl_in hD0
  have hS : va_S (fun q => q ∈ L) s.heap s.heap [] := va_S.rf
  have hl := lv_entry ([.ref o0, .int p1, .int p2]) (n := 10) (Nat.le_of_ble_eq_true rfl)
  rw [lg_entry_eq]
  generalize (lg_sl ([.ref o0, .int p1, .int p2]) ++ List.replicate (10 - (lg_sl ([.ref o0, .int p1, .int p2])).length) Slot.unset).toArray = ls at hl ⊢
  have hl : lv_has ls 10 [(0, .ref o0), (1, .int p1), (2, .int p2)] := hl
  have bp2 : ((-2147483648) ≤ p2.toInt ∧ p2.toInt ≤ 2147483647) := ⟨i32_lo _, i32_hi _⟩
  have hfr0 : ∀ b, kd b ≠ 583 → kd b ≠ 585 → kd b ≠ 587 → f b = f b := fun _ _ _ _ => rfl
  obtain ⟨a_1, a_2, a_3, v_4, a_5, v_6, v_7, v_8, v_9, v_10, v_11, v_12, v_13, v_14, v_15, a_16, a_17, a_18, a_19, a_20, a_21, a_22, a_23, v_24, v_25, v_26, v_27, v_28, a_29, v_30, a_31, a_32, v_33, v_34, a_35, v_36, a_37, a_38, v_39, v_40, a_41, a_42, a_43, v_44, a_45, a_46, a_47, a_48, a_49, a_50, a_51, a_52, a_53, v_54, v_55, a_56, hfo_57, fa_58⟩ := un12 (hG _ mo0) ko0
  obtain ⟨ma_18, ka_18⟩ := fa12_17 fa_58
  obtain ⟨ma_19, ka_19⟩ := fa12_18 fa_58
  obtain ⟨ma_20, ka_20⟩ := fa12_19 fa_58
  obtain ⟨g_60, hfo_59, hbg_60⟩ := un_587 (hG _ ma_20) ka_20
  obtain ⟨x_61, ex_61⟩ : ∃ y : Int32, y = g_60 (Int32.toNatClampNeg p1) := ⟨_, rfl⟩
  have hx_61 : 0 ≤ x_61.toInt ∧ x_61.toInt ≤ 8 * p1.toInt := by have hc9 := cl_I (i := p1) (by omega); have h8 := hbg_60 (Int32.toNatClampNeg p1); rw [ex_61]; constructor <;> omega
  have bx_61 : (0 ≤ x_61.toInt ∧ x_61.toInt ≤ 104) := by constructor <;> omega
  refine lv_iconst (v := 0) hx hb dX12_needsGoOn_0 (by decide) ?_
  refine lv_istore_n (lv' := [(3, .int 0), (0, .ref o0), (1, .int p1), (2, .int p2)]) hx hb dX12_needsGoOn_1 rfl hl (by decide) rfl (fun ls hl => ?_)
  refine lv_iconst (v := 0) hx hb dX12_needsGoOn_2 (by decide) ?_
  refine lv_istore (lv' := [(4, .int 0), (3, .int 0), (0, .ref o0), (1, .int p1), (2, .int p2)]) hx hb dX12_needsGoOn_3 hl (by decide) rfl (fun ls hl => ?_)
  have hloop_69 : ∀ (n : Nat), ∀ (y_70 : Int32), (0 ≤ y_70.toInt ∧ y_70.toInt ≤ 104) → ∀ (y_71 : Int32), (0 ≤ y_71.toInt ∧ y_71.toInt ≤ 104) → ∀ (f_73 : Nat → va_E), GI (okc cI cL cZ cR cG cH L kd) kd L f_73 → ∀ (H : Heap) (locs : List Loc), va_P (dC, dI) vwCl (va_pl L f_73) H → va_S (fun q => q ∈ L) s.heap H locs → va_D (fun q => q ∈ L) (va_pl L f_73) → (∀ b, kd b ≠ 583 → kd b ≠ 585 → kd b ≠ 587 → f_73 b = f b) → (f_73 o0 = .inr (12, [.ref a_1, .ref a_2, .ref a_3, .int v_4, .ref a_5, .int v_6, .int v_7, .int v_8, .int v_9, .int v_10, .int v_11, .int v_12, .int v_13, .int v_14, .int v_15, .ref a_16, .ref a_17, .ref a_18, .ref a_19, .ref a_20, .ref a_21, .ref a_22, .ref a_23, .int v_24, .int v_25, .int v_26, .int v_27, .int v_28, .ref a_29, .int v_30, .ref a_31, .ref a_32, .int v_33, .int v_34, .ref a_35, .int v_36, .ref a_37, .ref a_38, .int v_39, .int v_40, .ref a_41, .ref a_42, .ref a_43, .int v_44, .ref a_45, .ref a_46, .ref a_47, .ref a_48, .ref a_49, .ref a_50, .ref a_51, .ref a_52, .ref a_53, .int v_54, .int v_55, .ref a_56])) → (f_73 a_20 = .inl (cI, 20, .inl g_60)) → (y_71.toInt ≤ y_70.toInt ∧ y_70.toInt ≤ x_61.toInt) → 104 - y_70.toInt < (n : Int) → ∀ (ls : Array Slot), lv_has ls 10 [(4, .int y_70), (3, .int y_71), (0, .ref o0), (1, .int p1), (2, .int p2)] → W p l e (headSpec (wU yX12_needsGoOn cX12_needsGoOn 10 (some .boolean)) { frames := 3, cells := 0, slots := 0, locals := 76 }).room s m [.ref o0, .int p1, .int p2].toArray below meth c H locs 0 0 (MQ below (va_Qi (fun (r : Int32) (f9 : Nat → va_E) => GI (okc cI cL cZ cR cG cH L kd) kd L f9 ∧ (0 ≤ r.toInt ∧ r.toInt ≤ 1) ∧ (∀ b, kd b ≠ 583 → kd b ≠ 585 → kd b ≠ 587 → f9 b = f b) ∧ (∀ b9 g9, fldR (f9 o0) 19 = some b9 → f9 b9 = .inl (cI, 20, .inl g9) → r.toInt = 0 ∨ ∀ j : Nat, (j : Int) = p1.toInt + 1 → (g9 j).toInt ≤ 8 * p1.toInt)) (qP (dC, dI) cI cL cZ cR cG cH L) (fun q => q ∈ L)) [.ref o0, .int p1, .int p2].toArray s 0 0 (fun q => q ∈ L)) (F0 m 5 ls []) := by
    intro n
    induction n with
    | zero => intro y_70 by_70 y_71 by_71 f_73 hG H locs hP hS hD hfr0 hfo_74 hfo_75 hrelhloop_69_0 hmuhloop_69 ls hl; exfalso; omega
    | succ n ih_hloop_69 =>
      intro y_70 by_70 y_71 by_71 f_73 hG H locs hP hS hD hfr0 hfo_74 hfo_75 hrelhloop_69_0 hmuhloop_69 ls hl
      refine lv_iload hx hb dX12_needsGoOn_5 (lv_at hl 0 rfl) ?_
      refine lv_aload_n hx hb dX12_needsGoOn_7 rfl (lv_at hl 2 rfl) ?_
      refine tk_getP (D := (dC, dI)) (ci := 12) (v := .ref a_20) (C := RX12) (T := TX12) (N := 56) hx hb hU inlX12 hown hK hP mo0 hfo_74 rfl 19 (by decide) (hU _ wd_179) (fun _ h9 => h9) rfl dX12_needsGoOn_8 ?_
      refine lv_iload_n hx hb dX12_needsGoOn_11 rfl (lv_at hl 3 rfl) ?_
      refine tk_ildP hx hb hK hP 0 ma_20 hfo_75 rfl (vp_in_iff.mpr (by constructor <;> omega)) dX12_needsGoOn_12 ?_
      refine tk_topi (y := x_61) ex_61.symm ?_
      refine lv_icmp_ge (tgt := 191) hx hb dX12_needsGoOn_13 (by decide) (fun c_76 => ?_) (fun c_76 => ?_)
      · skip
        rw [Int32.le_iff_toInt_le] at c_76
        refine lv_aload_n hx hb dX12_needsGoOn_191 rfl (lv_at hl 2 rfl) ?_
        refine tk_getP (D := (dC, dI)) (ci := 12) (v := .ref a_20) (C := RX12) (T := TX12) (N := 56) hx hb hU inlX12 hown hK hP mo0 hfo_74 rfl 19 (by decide) (hU _ wd_179) (fun _ h9 => h9) rfl dX12_needsGoOn_192 ?_
        refine lv_iload_n hx hb dX12_needsGoOn_195 rfl (lv_at hl 3 rfl) ?_
        refine lv_iconst (v := 1) hx hb dX12_needsGoOn_196 (by decide) ?_
        refine lv_iadd hx hb dX12_needsGoOn_197 ?_
        refine lv_topi (fun x_77 ex_77 => ?_)
        have hx_77 : x_77.toInt = p1.toInt + 1 := by rw [ex_77, ad_I (by rw [ti_1]; omega) (by rw [ti_1]; omega), ti_1]
        have bx_77 : (1 ≤ x_77.toInt ∧ x_77.toInt ≤ 14) := by constructor <;> omega
        refine lv_iload_n hx hb dX12_needsGoOn_198 rfl (lv_at hl 1 rfl) ?_
        refine tk_istP hx hb hK hP hD hS 0 ma_20 hfo_75 rfl (vp_in_iff.mpr (by constructor <;> omega)) dX12_needsGoOn_199 (fun H locs hP hD hS => ?_)
        have hc9 := cl_I (i := x_77) (by omega)
        obtain ⟨g_78, eqg_78⟩ : ∃ y : Nat → Int32, y = upd g_60 (Int32.toNatClampNeg x_77) y_71 := ⟨_, rfl⟩
        rw [← eqg_78] at hP hD
        have hbg_78 : ∀ j : Nat, 0 ≤ (g_78 j).toInt ∧ (g_78 j).toInt ≤ 8 * (j : Int) := by rw [eqg_78]; exact (by intro j; by_cases hj : j = Int32.toNatClampNeg x_77; (· subst hj; rw [pk_us]; constructor <;> omega); (· rw [pk_un hj]; exact hbg_60 j))
        obtain ⟨f_80, ef_80⟩ : ∃ y : Nat → va_E, y = va_up f_73 a_20 (.inl (cI, 20, .inl g_78)) := ⟨_, rfl⟩
        have hP : va_P (dC, dI) vwCl (va_pl L f_80) H := by rw [ef_80]; exact hP
        have hD : va_D (fun q => q ∈ L) (va_pl L f_80) := by rw [ef_80]; exact hD
        have hG : GI (okc cI cL cZ cR cG cH L kd) kd L f_80 := by rw [ef_80]; exact hG.set a_20 (mk_587 ka_20 ⟨_, rfl, hbg_78⟩)
        have hfo_81 : f_80 o0 = .inr (12, [.ref a_1, .ref a_2, .ref a_3, .int v_4, .ref a_5, .int v_6, .int v_7, .int v_8, .int v_9, .int v_10, .int v_11, .int v_12, .int v_13, .int v_14, .int v_15, .ref a_16, .ref a_17, .ref a_18, .ref a_19, .ref a_20, .ref a_21, .ref a_22, .ref a_23, .int v_24, .int v_25, .int v_26, .int v_27, .int v_28, .ref a_29, .int v_30, .ref a_31, .ref a_32, .int v_33, .int v_34, .ref a_35, .int v_36, .ref a_37, .ref a_38, .int v_39, .int v_40, .ref a_41, .ref a_42, .ref a_43, .int v_44, .ref a_45, .ref a_46, .ref a_47, .ref a_48, .ref a_49, .ref a_50, .ref a_51, .ref a_52, .ref a_53, .int v_54, .int v_55, .ref a_56]) := by rw [ef_80, up_ne (kd_ne ka_20 ko0 (by decide))]; exact hfo_74
        have hfr0 : ∀ b, kd b ≠ 583 → kd b ≠ 585 → kd b ≠ 587 → f_80 b = f b := fun b q583 q585 q587 => (congrFun ef_80 b).trans ((up_ne (fun e9 => q587 (by rw [e9]; exact ka_20))).trans (hfr0 b q583 q585 q587))
        have hfo_82 : f_80 a_20 = .inl (cI, 20, .inl g_78) := by rw [ef_80]; exact up_self
        have ql_83 : y_71 = g_78 (Int32.toNatClampNeg x_77) := by rw [eqg_78, pk_us]
        refine lv_iconst (v := 1) hx hb dX12_needsGoOn_200 (by decide) ?_
        exact W.zret (v := 1) (ty := .boolean) hx hb hr rfl (fun t ht hW => ⟨⟨1, f_80, rfl, ⟨hG, (by decide), hfr0, (fun b9 g9 h1 h2 => Or.inr (by rw [hfo_81] at h1; obtain rfl := Option.some.inj h1; rw [hfo_82] at h2; cases h2; intro j hj; have hc9 := cl_I (i := x_77) (by omega); rw [eqg_78, show j = Int32.toNatClampNeg x_77 by omega, pk_us]; omega))⟩, by rw [ht]; exact hP, va_K.moved hW.alike hK, pl_in hD⟩, hS.F ht⟩) hS.2.2 dX12_needsGoOn_201
      · skip
        rw [Int32.le_iff_toInt_le] at c_76
        refine lv_aload_n hx hb dX12_needsGoOn_16 rfl (lv_at hl 2 rfl) ?_
        refine tk_getP (D := (dC, dI)) (ci := 12) (v := .ref a_18) (C := RX12) (T := TX12) (N := 56) hx hb hU inlX12 hown hK hP mo0 hfo_74 rfl 17 (by decide) (hU _ wd_177) (fun _ h9 => h9) rfl dX12_needsGoOn_17 ?_
        refine lv_iload_n hx hb dX12_needsGoOn_20 rfl (lv_at hl 3 rfl) ?_
        obtain ⟨g_85, hfo_84, hbg_85⟩ := un_584 (hG _ ma_18) ka_18
        obtain ⟨a_86, hga_86, ma_86, ka_86⟩ := hbg_85 (Int32.toNatClampNeg p1) (in_lt (vp_in_iff.mpr (by constructor <;> omega)))
        refine tk_aldA hx hb hK hP 4 ma_18 hfo_84 rfl (vp_in_iff.mpr (by constructor <;> omega)) hga_86 dX12_needsGoOn_21 ?_
        refine lv_iload hx hb dX12_needsGoOn_22 (lv_at hl 0 rfl) ?_
        obtain ⟨g_88, hfo_87, hbg_88⟩ := un_583 (hG _ ma_86) ka_86
        refine tk_ildP hx hb hK hP 0 ma_86 hfo_87 rfl (vp_in_iff.mpr (by constructor <;> omega)) dX12_needsGoOn_24 ?_
        refine lv_topi (fun x_89 ex_89 => ?_)
        have bx_89 : (0 ≤ x_89.toInt ∧ x_89.toInt ≤ 7) := by rw [ex_89]; exact hbg_88 _
        refine lv_istore (lv' := [(5, .int x_89), (4, .int y_70), (3, .int y_71), (0, .ref o0), (1, .int p1), (2, .int p2)]) hx hb dX12_needsGoOn_25 hl (by decide) rfl (fun ls hl => ?_)
        refine lv_iconst (v := 0) hx hb dX12_needsGoOn_27 (by decide) ?_
        refine lv_istore (lv' := [(6, .int 0), (5, .int x_89), (4, .int y_70), (3, .int y_71), (0, .ref o0), (1, .int p1), (2, .int p2)]) hx hb dX12_needsGoOn_28 hl (by decide) rfl (fun ls hl => ?_)
        refine lv_iconst (v := 0) hx hb dX12_needsGoOn_30 (by decide) ?_
        refine lv_istore (lv' := [(7, .int 0), (6, .int 0), (5, .int x_89), (4, .int y_70), (3, .int y_71), (0, .ref o0), (1, .int p1), (2, .int p2)]) hx hb dX12_needsGoOn_31 hl (by decide) rfl (fun ls hl => ?_)
        refine lv_iconst (v := 0) hx hb dX12_needsGoOn_33 (by decide) ?_
        refine lv_istore (lv' := [(8, .int 0), (7, .int 0), (6, .int 0), (5, .int x_89), (4, .int y_70), (3, .int y_71), (0, .ref o0), (1, .int p1), (2, .int p2)]) hx hb dX12_needsGoOn_34 hl (by decide) rfl (fun ls hl => ?_)
        have hloop_120 : ∀ (n : Nat), ∀ (y_121 : Int32), (0 ≤ y_121.toInt ∧ y_121.toInt ≤ 3) → ∀ (y_122 : Int32), ((-2147483648) ≤ y_122.toInt ∧ y_122.toInt ≤ 2147483647) → ∀ (y_123 : Int32), (0 ≤ y_123.toInt ∧ y_123.toInt ≤ 1) → ∀ (f_125 : Nat → va_E), GI (okc cI cL cZ cR cG cH L kd) kd L f_125 → ∀ (H : Heap) (locs : List Loc), va_P (dC, dI) vwCl (va_pl L f_125) H → va_S (fun q => q ∈ L) s.heap H locs → va_D (fun q => q ∈ L) (va_pl L f_125) → (∀ b, kd b ≠ 583 → kd b ≠ 585 → kd b ≠ 587 → f_125 b = f b) → (f_125 o0 = .inr (12, [.ref a_1, .ref a_2, .ref a_3, .int v_4, .ref a_5, .int v_6, .int v_7, .int v_8, .int v_9, .int v_10, .int v_11, .int v_12, .int v_13, .int v_14, .int v_15, .ref a_16, .ref a_17, .ref a_18, .ref a_19, .ref a_20, .ref a_21, .ref a_22, .ref a_23, .int v_24, .int v_25, .int v_26, .int v_27, .int v_28, .ref a_29, .int v_30, .ref a_31, .ref a_32, .int v_33, .int v_34, .ref a_35, .int v_36, .ref a_37, .ref a_38, .int v_39, .int v_40, .ref a_41, .ref a_42, .ref a_43, .int v_44, .ref a_45, .ref a_46, .ref a_47, .ref a_48, .ref a_49, .ref a_50, .ref a_51, .ref a_52, .ref a_53, .int v_54, .int v_55, .ref a_56])) → (f_125 a_20 = .inl (cI, 20, .inl g_60)) → (f_125 a_18 = .inl (cG, 20, .inr (.inr (.inr (.inr g_85))))) → (f_125 a_86 = .inl (cI, 160, .inl g_88)) → 3 - y_121.toInt < (n : Int) → ∀ (ls : Array Slot), lv_has ls 10 [(8, .int y_121), (7, .int y_122), (6, .int y_123), (5, .int x_89), (4, .int y_70), (3, .int y_71), (0, .ref o0), (1, .int p1), (2, .int p2)] → W p l e (headSpec (wU yX12_needsGoOn cX12_needsGoOn 10 (some .boolean)) { frames := 3, cells := 0, slots := 0, locals := 76 }).room s m [.ref o0, .int p1, .int p2].toArray below meth c H locs 0 0 (MQ below (va_Qi (fun (r : Int32) (f9 : Nat → va_E) => GI (okc cI cL cZ cR cG cH L kd) kd L f9 ∧ (0 ≤ r.toInt ∧ r.toInt ≤ 1) ∧ (∀ b, kd b ≠ 583 → kd b ≠ 585 → kd b ≠ 587 → f9 b = f b) ∧ (∀ b9 g9, fldR (f9 o0) 19 = some b9 → f9 b9 = .inl (cI, 20, .inl g9) → r.toInt = 0 ∨ ∀ j : Nat, (j : Int) = p1.toInt + 1 → (g9 j).toInt ≤ 8 * p1.toInt)) (qP (dC, dI) cI cL cZ cR cG cH L) (fun q => q ∈ L)) [.ref o0, .int p1, .int p2].toArray s 0 0 (fun q => q ∈ L)) (F0 m 36 ls []) := by
          intro n
          induction n with
          | zero => intro y_121 by_121 y_122 by_122 y_123 by_123 f_125 hG H locs hP hS hD hfr0 hfo_126 hfo_127 hfo_128 hfo_129 hmuhloop_120 ls hl; exfalso; omega
          | succ n ih_hloop_120 =>
            intro y_121 by_121 y_122 by_122 y_123 by_123 f_125 hG H locs hP hS hD hfr0 hfo_126 hfo_127 hfo_128 hfo_129 hmuhloop_120 ls hl
            refine lv_iload hx hb dX12_needsGoOn_36 (lv_at hl 0 rfl) ?_
            refine lv_iconst (v := 3) hx hb dX12_needsGoOn_38 (by decide) ?_
            refine lv_icmp_ge (tgt := 155) hx hb dX12_needsGoOn_39 (by decide) (fun c_130 => ?_) (fun c_130 => ?_)
            · skip
              rw [Int32.le_iff_toInt_le, ti_3] at c_130
              refine lv_iload hx hb dX12_needsGoOn_155 (lv_at hl 2 rfl) ?_
              refine lv_if_eq (tgt := 163) hx hb dX12_needsGoOn_157 (by decide) (fun c_131 => ?_) (fun c_131 => ?_)
              · skip
                rw [← Int32.toInt_inj, ti_0] at c_131
                refine lv_iload hx hb dX12_needsGoOn_163 (lv_at hl 1 rfl) ?_
                refine lv_if_ne (tgt := 170) hx hb dX12_needsGoOn_165 (by decide) (fun c_132 => ?_) (fun c_132 => ?_)
                · skip
                  rw [← Int32.toInt_inj, ti_0] at c_132
                  refine lv_aload_n hx hb dX12_needsGoOn_170 rfl (lv_at hl 6 rfl) ?_
                  refine tk_getP (D := (dC, dI)) (ci := 12) (v := .ref a_18) (C := RX12) (T := TX12) (N := 56) hx hb hU inlX12 hown hK hP mo0 hfo_126 rfl 17 (by decide) (hU _ wd_177) (fun _ h9 => h9) rfl dX12_needsGoOn_171 ?_
                  refine lv_iload_n hx hb dX12_needsGoOn_174 rfl (lv_at hl 7 rfl) ?_
                  refine lv_iconst (v := 1) hx hb dX12_needsGoOn_175 (by decide) ?_
                  refine lv_iadd hx hb dX12_needsGoOn_176 ?_
                  refine lv_topi (fun x_133 ex_133 => ?_)
                  have hx_133 : x_133.toInt = p1.toInt + 1 := by rw [ex_133, ad_I (by rw [ti_1]; omega) (by rw [ti_1]; omega), ti_1]
                  have bx_133 : (1 ≤ x_133.toInt ∧ x_133.toInt ≤ 14) := by constructor <;> omega
                  obtain ⟨a_134, hga_134, ma_134, ka_134⟩ := hbg_85 (Int32.toNatClampNeg x_133) (in_lt (vp_in_iff.mpr (by constructor <;> omega)))
                  refine tk_aldA hx hb hK hP 4 ma_18 hfo_128 rfl (vp_in_iff.mpr (by constructor <;> omega)) hga_134 dX12_needsGoOn_177 ?_
                  refine lv_iload_n hx hb dX12_needsGoOn_178 rfl (lv_at hl 5 rfl) ?_
                  refine lv_iload hx hb dX12_needsGoOn_179 (lv_at hl 3 rfl) ?_
                  obtain ⟨g_136, hfo_135, hbg_136⟩ := un_583 (hG _ ma_134) ka_134
                  refine tk_istP hx hb hK hP hD hS 0 ma_134 hfo_135 rfl (vp_in_iff.mpr (by constructor <;> omega)) dX12_needsGoOn_181 (fun H locs hP hD hS => ?_)
                  obtain ⟨f_138, ef_138⟩ : ∃ y : Nat → va_E, y = va_up f_125 a_134 (.inl (cI, 160, .inl (upd g_136 (Int32.toNatClampNeg y_71) x_89))) := ⟨_, rfl⟩
                  have hP : va_P (dC, dI) vwCl (va_pl L f_138) H := by rw [ef_138]; exact hP
                  have hD : va_D (fun q => q ∈ L) (va_pl L f_138) := by rw [ef_138]; exact hD
                  have hG : GI (okc cI cL cZ cR cG cH L kd) kd L f_138 := by rw [ef_138]; exact hG.set a_134 (mk_583 ka_134 ⟨_, rfl, okI_up hbg_136 (by constructor <;> omega) _⟩)
                  have hfo_139 : f_138 o0 = .inr (12, [.ref a_1, .ref a_2, .ref a_3, .int v_4, .ref a_5, .int v_6, .int v_7, .int v_8, .int v_9, .int v_10, .int v_11, .int v_12, .int v_13, .int v_14, .int v_15, .ref a_16, .ref a_17, .ref a_18, .ref a_19, .ref a_20, .ref a_21, .ref a_22, .ref a_23, .int v_24, .int v_25, .int v_26, .int v_27, .int v_28, .ref a_29, .int v_30, .ref a_31, .ref a_32, .int v_33, .int v_34, .ref a_35, .int v_36, .ref a_37, .ref a_38, .int v_39, .int v_40, .ref a_41, .ref a_42, .ref a_43, .int v_44, .ref a_45, .ref a_46, .ref a_47, .ref a_48, .ref a_49, .ref a_50, .ref a_51, .ref a_52, .ref a_53, .int v_54, .int v_55, .ref a_56]) := by rw [ef_138, up_ne (kd_ne ka_134 ko0 (by decide))]; exact hfo_126
                  have hfo_140 : f_138 a_20 = .inl (cI, 20, .inl g_60) := by rw [ef_138, up_ne (kd_ne ka_134 ka_20 (by decide))]; exact hfo_127
                  have hfo_141 : f_138 a_18 = .inl (cG, 20, .inr (.inr (.inr (.inr g_85)))) := by rw [ef_138, up_ne (kd_ne ka_134 ka_18 (by decide))]; exact hfo_128
                  have hfr0 : ∀ b, kd b ≠ 583 → kd b ≠ 585 → kd b ≠ 587 → f_138 b = f b := fun b q583 q585 q587 => (congrFun ef_138 b).trans ((up_ne (fun e9 => q583 (by rw [e9]; exact ka_134))).trans (hfr0 b q583 q585 q587))
                  have hfo_142 : f_138 a_134 = .inl (cI, 160, .inl (upd g_136 (Int32.toNatClampNeg y_71) x_89)) := by rw [ef_138]; exact up_self
                  obtain ⟨x_143, ex_143⟩ : ∃ y : Int32, y_71 + 1 = y := ⟨_, rfl⟩
                  have hx_143 : x_143.toInt = y_71.toInt + 1 := by rw [← ex_143, ad_I (by rw [ti_1]; omega) (by rw [ti_1]; omega), ti_1]
                  have bx_143 : (1 ≤ x_143.toInt ∧ x_143.toInt ≤ 105) := by constructor <;> omega
                  refine lv_iinc (v := x_143) (lv' := [(3, .int x_143), (8, .int y_121), (7, .int y_122), (6, .int y_123), (5, .int x_89), (4, .int y_70), (0, .ref o0), (1, .int p1), (2, .int p2)]) hx hb dX12_needsGoOn_182 hl (k := 5) rfl ex_143 (by decide) rfl (fun ls hl => ?_)
                  obtain ⟨x_144, ex_144⟩ : ∃ y : Int32, y_70 + 1 = y := ⟨_, rfl⟩
                  have hx_144 : x_144.toInt = y_70.toInt + 1 := by rw [← ex_144, ad_I (by rw [ti_1]; omega) (by rw [ti_1]; omega), ti_1]
                  have bx_144 : (1 ≤ x_144.toInt ∧ x_144.toInt ≤ 104) := by constructor <;> omega
                  refine lv_iinc (v := x_144) (lv' := [(4, .int x_144), (3, .int x_143), (8, .int y_121), (7, .int y_122), (6, .int y_123), (5, .int x_89), (0, .ref o0), (1, .int p1), (2, .int p2)]) hx hb dX12_needsGoOn_185 hl (k := 5) rfl ex_144 (by decide) rfl (fun ls hl => ?_)
                  refine lv_goto (tgt := 5) hx hb dX12_needsGoOn_188 (by decide) ?_
                  exact ih_hloop_69 x_144 (by constructor <;> omega) x_143 (by constructor <;> omega) f_138 hG _ _ hP hS hD hfr0 hfo_139 hfo_140 (by omega) (by omega) ls (lv_sub hl [0, 1, 6, 7, 8] rfl)
                · skip
                  rw [← Int32.toInt_inj, ti_0] at c_132
                  refine lv_iconst (v := 0) hx hb dX12_needsGoOn_168 (by decide) ?_
                  exact W.zret (v := 0) (ty := .boolean) hx hb hr rfl (fun t ht hW => ⟨⟨0, f_125, rfl, ⟨hG, (by decide), hfr0, (fun _ _ _ _ => Or.inl (by decide))⟩, by rw [ht]; exact hP, va_K.moved hW.alike hK, pl_in hD⟩, hS.F ht⟩) hS.2.2 dX12_needsGoOn_169
              · skip
                rw [← Int32.toInt_inj, ti_0] at c_131
                refine lv_goto (tgt := 185) hx hb dX12_needsGoOn_160 (by decide) ?_
                obtain ⟨x_145, ex_145⟩ : ∃ y : Int32, y_70 + 1 = y := ⟨_, rfl⟩
                have hx_145 : x_145.toInt = y_70.toInt + 1 := by rw [← ex_145, ad_I (by rw [ti_1]; omega) (by rw [ti_1]; omega), ti_1]
                have bx_145 : (1 ≤ x_145.toInt ∧ x_145.toInt ≤ 104) := by constructor <;> omega
                refine lv_iinc (v := x_145) (lv' := [(4, .int x_145), (8, .int y_121), (7, .int y_122), (6, .int y_123), (5, .int x_89), (3, .int y_71), (0, .ref o0), (1, .int p1), (2, .int p2)]) hx hb dX12_needsGoOn_185 hl (k := 4) rfl ex_145 (by decide) rfl (fun ls hl => ?_)
                refine lv_goto (tgt := 5) hx hb dX12_needsGoOn_188 (by decide) ?_
                exact ih_hloop_69 x_145 (by constructor <;> omega) y_71 (by constructor <;> omega) f_125 hG _ _ hP hS hD hfr0 hfo_126 hfo_127 (by omega) (by omega) ls (lv_sub hl [0, 5, 6, 7, 8] rfl)
            · skip
              rw [Int32.le_iff_toInt_le, ti_3] at c_130
              refine lv_aload_n hx hb dX12_needsGoOn_42 rfl (lv_at hl 6 rfl) ?_
              refine tk_getP (D := (dC, dI)) (ci := 12) (v := .ref a_19) (C := RX12) (T := TX12) (N := 56) hx hb hU inlX12 hown hK hP mo0 hfo_126 rfl 18 (by decide) (hU _ wd_178) (fun _ h9 => h9) rfl dX12_needsGoOn_43 ?_
              refine lv_iload_n hx hb dX12_needsGoOn_46 rfl (lv_at hl 7 rfl) ?_
              obtain ⟨g_147, hfo_146, hbg_147⟩ := un_586 (hG _ ma_19) ka_19
              obtain ⟨a_148, hga_148, ma_148, ka_148⟩ := hbg_147 (Int32.toNatClampNeg p1) (in_lt (vp_in_iff.mpr (by constructor <;> omega)))
              refine tk_aldA hx hb hK hP 4 ma_19 hfo_146 rfl (vp_in_iff.mpr (by constructor <;> omega)) hga_148 dX12_needsGoOn_47 ?_
              refine lv_iconst (v := 3) hx hb dX12_needsGoOn_48 (by decide) ?_
              refine lv_iload hx hb dX12_needsGoOn_49 (lv_at hl 4 rfl) ?_
              refine lv_imul hx hb dX12_needsGoOn_51 ?_
              refine lv_topi (fun x_149 ex_149 => ?_)
              have hx_149 : x_149.toInt = 3 * y_70.toInt := by rw [ex_149, ml_I (by rw [ti_3]; omega) (by rw [ti_3]; omega), ti_3]
              have bx_149 : (0 ≤ x_149.toInt ∧ x_149.toInt ≤ 309) := by constructor <;> omega
              refine lv_iload hx hb dX12_needsGoOn_52 (lv_at hl 0 rfl) ?_
              refine lv_iadd hx hb dX12_needsGoOn_54 ?_
              refine lv_topi (fun x_150 ex_150 => ?_)
              have hx_150 : x_150.toInt = x_149.toInt + y_121.toInt := by rw [ex_150, ad_I (by omega) (by omega)]
              have bx_150 : (0 ≤ x_150.toInt ∧ x_150.toInt ≤ 311) := by constructor <;> omega
              obtain ⟨g_152, hfo_151, hbg_152⟩ := un_585 (hG _ ma_148) ka_148
              refine tk_ildP hx hb hK hP 0 ma_148 hfo_151 rfl (vp_in_iff.mpr (by constructor <;> omega)) dX12_needsGoOn_55 ?_
              refine lv_topi (fun x_153 ex_153 => ?_)
              have bx_153 : ((-2147483648) ≤ x_153.toInt ∧ x_153.toInt ≤ 2147483647) := ⟨i32_lo _, i32_hi _⟩
              have hcut_156 : ∀ (y_154 : Int32), (0 ≤ y_154.toInt ∧ y_154.toInt ≤ 63) → ∀ (H : Heap) (locs : List Loc), va_P (dC, dI) vwCl (va_pl L f_125) H → va_S (fun q => q ∈ L) s.heap H locs → ∀ (ls : Array Slot), lv_has ls 10 [(8, .int y_121), (7, .int y_122), (6, .int y_123), (5, .int x_89), (4, .int y_70), (3, .int y_71), (0, .ref o0), (1, .int p1), (2, .int p2)] → W p l e (headSpec (wU yX12_needsGoOn cX12_needsGoOn 10 (some .boolean)) { frames := 3, cells := 0, slots := 0, locals := 76 }).room s m [.ref o0, .int p1, .int p2].toArray below meth c H locs 0 0 (MQ below (va_Qi (fun (r : Int32) (f9 : Nat → va_E) => GI (okc cI cL cZ cR cG cH L kd) kd L f9 ∧ (0 ≤ r.toInt ∧ r.toInt ≤ 1) ∧ (∀ b, kd b ≠ 583 → kd b ≠ 585 → kd b ≠ 587 → f9 b = f b) ∧ (∀ b9 g9, fldR (f9 o0) 19 = some b9 → f9 b9 = .inl (cI, 20, .inl g9) → r.toInt = 0 ∨ ∀ j : Nat, (j : Int) = p1.toInt + 1 → (g9 j).toInt ≤ 8 * p1.toInt)) (qP (dC, dI) cI cL cZ cR cG cH L) (fun q => q ∈ L)) [.ref o0, .int p1, .int p2].toArray s 0 0 (fun q => q ∈ L)) (F0 m 90 ls [.int y_154]) := by
                intro y_154 by_154 H locs hP hS ls hl
                refine lv_istore (lv' := [(9, .int y_154), (8, .int y_121), (7, .int y_122), (6, .int y_123), (5, .int x_89), (4, .int y_70), (3, .int y_71), (0, .ref o0), (1, .int p1), (2, .int p2)]) hx hb dX12_needsGoOn_90 hl (by decide) rfl (fun ls hl => ?_)
                refine lv_aload_n hx hb dX12_needsGoOn_92 rfl (lv_at hl 7 rfl) ?_
                refine tk_getP (D := (dC, dI)) (ci := 12) (v := .ref a_19) (C := RX12) (T := TX12) (N := 56) hx hb hU inlX12 hown hK hP mo0 hfo_126 rfl 18 (by decide) (hU _ wd_178) (fun _ h9 => h9) rfl dX12_needsGoOn_93 ?_
                refine lv_iload_n hx hb dX12_needsGoOn_96 rfl (lv_at hl 8 rfl) ?_
                refine lv_iconst (v := 1) hx hb dX12_needsGoOn_97 (by decide) ?_
                refine lv_iadd hx hb dX12_needsGoOn_98 ?_
                refine lv_topi (fun x_157 ex_157 => ?_)
                have hx_157 : x_157.toInt = p1.toInt + 1 := by rw [ex_157, ad_I (by rw [ti_1]; omega) (by rw [ti_1]; omega), ti_1]
                have bx_157 : (1 ≤ x_157.toInt ∧ x_157.toInt ≤ 14) := by constructor <;> omega
                obtain ⟨a_158, hga_158, ma_158, ka_158⟩ := hbg_147 (Int32.toNatClampNeg x_157) (in_lt (vp_in_iff.mpr (by constructor <;> omega)))
                refine tk_aldA hx hb hK hP 4 ma_19 hfo_146 rfl (vp_in_iff.mpr (by constructor <;> omega)) hga_158 dX12_needsGoOn_99 ?_
                refine lv_iconst (v := 3) hx hb dX12_needsGoOn_100 (by decide) ?_
                refine lv_iload_n hx hb dX12_needsGoOn_101 rfl (lv_at hl 6 rfl) ?_
                refine lv_imul hx hb dX12_needsGoOn_102 ?_
                refine lv_topi (fun x_159 ex_159 => ?_)
                have hx_159 : x_159.toInt = 3 * y_71.toInt := by rw [ex_159, ml_I (by rw [ti_3]; omega) (by rw [ti_3]; omega), ti_3]
                have bx_159 : (0 ≤ x_159.toInt ∧ x_159.toInt ≤ 312) := by constructor <;> omega
                refine lv_iload hx hb dX12_needsGoOn_103 (lv_at hl 1 rfl) ?_
                refine lv_iadd hx hb dX12_needsGoOn_105 ?_
                refine lv_topi (fun x_160 ex_160 => ?_)
                have hx_160 : x_160.toInt = x_159.toInt + y_121.toInt := by rw [ex_160, ad_I (by omega) (by omega)]
                have bx_160 : (0 ≤ x_160.toInt ∧ x_160.toInt ≤ 314) := by constructor <;> omega
                refine lv_iload hx hb dX12_needsGoOn_106 (lv_at hl 0 rfl) ?_
                obtain ⟨g_162, hfo_161, hbg_162⟩ := un_585 (hG _ ma_158) ka_158
                refine tk_istP hx hb hK hP hD hS 0 ma_158 hfo_161 rfl (vp_in_iff.mpr (by constructor <;> omega)) dX12_needsGoOn_108 (fun H locs hP hD hS => ?_)
                obtain ⟨f_164, ef_164⟩ : ∃ y : Nat → va_E, y = va_up f_125 a_158 (.inl (cI, 480, .inl (upd g_162 (Int32.toNatClampNeg x_160) y_154))) := ⟨_, rfl⟩
                have hP : va_P (dC, dI) vwCl (va_pl L f_164) H := by rw [ef_164]; exact hP
                have hD : va_D (fun q => q ∈ L) (va_pl L f_164) := by rw [ef_164]; exact hD
                have hG : GI (okc cI cL cZ cR cG cH L kd) kd L f_164 := by rw [ef_164]; exact hG.set a_158 (mk_585 ka_158 ⟨_, rfl, okI_up hbg_162 ⟨i32_lo _, i32_hi _⟩ _⟩)
                have hfo_165 : f_164 o0 = .inr (12, [.ref a_1, .ref a_2, .ref a_3, .int v_4, .ref a_5, .int v_6, .int v_7, .int v_8, .int v_9, .int v_10, .int v_11, .int v_12, .int v_13, .int v_14, .int v_15, .ref a_16, .ref a_17, .ref a_18, .ref a_19, .ref a_20, .ref a_21, .ref a_22, .ref a_23, .int v_24, .int v_25, .int v_26, .int v_27, .int v_28, .ref a_29, .int v_30, .ref a_31, .ref a_32, .int v_33, .int v_34, .ref a_35, .int v_36, .ref a_37, .ref a_38, .int v_39, .int v_40, .ref a_41, .ref a_42, .ref a_43, .int v_44, .ref a_45, .ref a_46, .ref a_47, .ref a_48, .ref a_49, .ref a_50, .ref a_51, .ref a_52, .ref a_53, .int v_54, .int v_55, .ref a_56]) := by rw [ef_164, up_ne (kd_ne ka_158 ko0 (by decide))]; exact hfo_126
                have hfo_166 : f_164 a_20 = .inl (cI, 20, .inl g_60) := by rw [ef_164, up_ne (kd_ne ka_158 ka_20 (by decide))]; exact hfo_127
                have hfo_167 : f_164 a_18 = .inl (cG, 20, .inr (.inr (.inr (.inr g_85)))) := by rw [ef_164, up_ne (kd_ne ka_158 ka_18 (by decide))]; exact hfo_128
                have hfo_168 : f_164 a_86 = .inl (cI, 160, .inl g_88) := by rw [ef_164, up_ne (kd_ne ka_158 ka_86 (by decide))]; exact hfo_129
                have hfo_169 : f_164 a_19 = .inl (cG, 20, .inr (.inr (.inr (.inr g_147)))) := by rw [ef_164, up_ne (kd_ne ka_158 ka_19 (by decide))]; exact hfo_146
                have hfr0 : ∀ b, kd b ≠ 583 → kd b ≠ 585 → kd b ≠ 587 → f_164 b = f b := fun b q583 q585 q587 => (congrFun ef_164 b).trans ((up_ne (fun e9 => q585 (by rw [e9]; exact ka_158))).trans (hfr0 b q583 q585 q587))
                have hfo_170 : f_164 a_158 = .inl (cI, 480, .inl (upd g_162 (Int32.toNatClampNeg x_160) y_154)) := by rw [ef_164]; exact up_self
                refine lv_iload hx hb dX12_needsGoOn_109 (lv_at hl 2 rfl) ?_
                refine lv_iload hx hb dX12_needsGoOn_111 (lv_at hl 0 rfl) ?_
                refine lv_ior hx hb dX12_needsGoOn_113 ?_
                refine lv_topi (fun x_171 ex_171 => ?_)
                have bx_171 : ((-2147483648) ≤ x_171.toInt ∧ x_171.toInt ≤ 2147483647) := ⟨i32_lo _, i32_hi _⟩
                refine lv_istore (lv' := [(7, .int x_171), (9, .int y_154), (8, .int y_121), (6, .int y_123), (5, .int x_89), (4, .int y_70), (3, .int y_71), (0, .ref o0), (1, .int p1), (2, .int p2)]) hx hb dX12_needsGoOn_114 hl (by decide) rfl (fun ls hl => ?_)
                refine lv_iload hx hb dX12_needsGoOn_116 (lv_at hl 3 rfl) ?_
                have hcut_174 : ∀ (y_172 : Int32), (0 ≤ y_172.toInt ∧ y_172.toInt ≤ 1) → ∀ (H : Heap) (locs : List Loc), va_P (dC, dI) vwCl (va_pl L f_164) H → va_S (fun q => q ∈ L) s.heap H locs → ∀ (ls : Array Slot), lv_has ls 10 [(7, .int x_171), (9, .int y_154), (8, .int y_121), (6, .int y_123), (5, .int x_89), (4, .int y_70), (3, .int y_71), (0, .ref o0), (1, .int p1), (2, .int p2)] → W p l e (headSpec (wU yX12_needsGoOn cX12_needsGoOn 10 (some .boolean)) { frames := 3, cells := 0, slots := 0, locals := 76 }).room s m [.ref o0, .int p1, .int p2].toArray below meth c H locs 0 0 (MQ below (va_Qi (fun (r : Int32) (f9 : Nat → va_E) => GI (okc cI cL cZ cR cG cH L kd) kd L f9 ∧ (0 ≤ r.toInt ∧ r.toInt ≤ 1) ∧ (∀ b, kd b ≠ 583 → kd b ≠ 585 → kd b ≠ 587 → f9 b = f b) ∧ (∀ b9 g9, fldR (f9 o0) 19 = some b9 → f9 b9 = .inl (cI, 20, .inl g9) → r.toInt = 0 ∨ ∀ j : Nat, (j : Int) = p1.toInt + 1 → (g9 j).toInt ≤ 8 * p1.toInt)) (qP (dC, dI) cI cL cZ cR cG cH L) (fun q => q ∈ L)) [.ref o0, .int p1, .int p2].toArray s 0 0 (fun q => q ∈ L)) (F0 m 147 ls [.int y_172]) := by
                  intro y_172 by_172 H locs hP hS ls hl
                  refine lv_istore (lv' := [(6, .int y_172), (7, .int x_171), (9, .int y_154), (8, .int y_121), (5, .int x_89), (4, .int y_70), (3, .int y_71), (0, .ref o0), (1, .int p1), (2, .int p2)]) hx hb dX12_needsGoOn_147 hl (by decide) rfl (fun ls hl => ?_)
                  obtain ⟨x_175, ex_175⟩ : ∃ y : Int32, y_121 + 1 = y := ⟨_, rfl⟩
                  have hx_175 : x_175.toInt = y_121.toInt + 1 := by rw [← ex_175, ad_I (by rw [ti_1]; omega) (by rw [ti_1]; omega), ti_1]
                  have bx_175 : (1 ≤ x_175.toInt ∧ x_175.toInt ≤ 3) := by constructor <;> omega
                  refine lv_iinc (v := x_175) (lv' := [(8, .int x_175), (6, .int y_172), (7, .int x_171), (9, .int y_154), (5, .int x_89), (4, .int y_70), (3, .int y_71), (0, .ref o0), (1, .int p1), (2, .int p2)]) hx hb dX12_needsGoOn_149 hl (k := 3) rfl ex_175 (by decide) rfl (fun ls hl => ?_)
                  refine lv_goto (tgt := 36) hx hb dX12_needsGoOn_152 (by decide) ?_
                  exact ih_hloop_120 x_175 (by constructor <;> omega) x_171 (by constructor <;> omega) y_172 (by constructor <;> omega) f_164 hG _ _ hP hS hD hfr0 hfo_165 hfo_166 hfo_167 hfo_168 (by omega) ls (lv_sub hl [0, 2, 1, 4, 5, 6, 7, 8, 9] rfl)
                refine lv_if_ne (tgt := 142) hx hb dX12_needsGoOn_118 (by decide) (fun c_176 => ?_) (fun c_176 => ?_)
                · skip
                  rw [← Int32.toInt_inj, ti_0] at c_176
                  refine lv_iconst (v := 1) hx hb dX12_needsGoOn_142 (by decide) ?_
                  refine lv_goto (tgt := 147) hx hb dX12_needsGoOn_143 (by decide) ?_
                  exact hcut_174 1 (by decide) _ _ hP hS ls (lv_sub hl [0, 1, 2, 3, 4, 5, 6, 7, 8, 9] rfl)
                · skip
                  rw [← Int32.toInt_inj, ti_0] at c_176
                  refine lv_iload hx hb dX12_needsGoOn_121 (lv_at hl 1 rfl) ?_
                  refine lv_if_eq (tgt := 146) hx hb dX12_needsGoOn_123 (by decide) (fun c_177 => ?_) (fun c_177 => ?_)
                  · skip
                    rw [← Int32.toInt_inj, ti_0] at c_177
                    refine lv_iconst (v := 0) hx hb dX12_needsGoOn_146 (by decide) ?_
                    exact hcut_174 0 (by decide) _ _ hP hS ls (lv_sub hl [0, 1, 2, 3, 4, 5, 6, 7, 8, 9] rfl)
                  · skip
                    rw [← Int32.toInt_inj, ti_0] at c_177
                    refine lv_aload_n hx hb dX12_needsGoOn_126 rfl (lv_at hl 7 rfl) ?_
                    refine lv_iconst (v := 3) hx hb dX12_needsGoOn_127 (by decide) ?_
                    refine lv_iload hx hb dX12_needsGoOn_128 (lv_at hl 4 rfl) ?_
                    refine lv_imul hx hb dX12_needsGoOn_130 ?_
                    refine lv_topi (fun x_178 ex_178 => ?_)
                    have hx_178 : x_178.toInt = 3 * x_89.toInt := by rw [ex_178, ml_I (by rw [ti_3]; omega) (by rw [ti_3]; omega), ti_3]
                    have bx_178 : (0 ≤ x_178.toInt ∧ x_178.toInt ≤ 21) := by constructor <;> omega
                    refine lv_iload hx hb dX12_needsGoOn_131 (lv_at hl 2 rfl) ?_
                    refine lv_iadd hx hb dX12_needsGoOn_133 ?_
                    refine lv_topi (fun x_179 ex_179 => ?_)
                    have hx_179 : x_179.toInt = x_178.toInt + y_121.toInt := by rw [ex_179, ad_I (by omega) (by omega)]
                    have bx_179 : (0 ≤ x_179.toInt ∧ x_179.toInt ≤ 23) := by constructor <;> omega
                    refine lv_iload hx hb dX12_needsGoOn_134 (lv_at hl 1 rfl) ?_
                    refine tk_ViP (As := [.int x_179, .int y_154]) (rest := []) (n := 2) hx hb hml hown hU hN hZ (s_X12_isMet_k12 l (dC, dI) cI cL cZ cR cG cH Z kd L f_164 hG o0 mo0 ko0 x_179 (by constructor <;> omega) y_154) wd_954 wd_955 wd_956 wd_5 wd_957 (by decide +kernel) ⟨Nat.le_of_ble_eq_true rfl, Nat.le_of_ble_eq_true rfl⟩ hK hP hD hS mo0 hfo_165 12 rfl rfl rfl hl.1 rfl (Nat.le_of_ble_eq_true rfl) dX12_needsGoOn_136 ⟨Nat.le_of_ble_eq_true rfl, Nat.le_of_ble_eq_true rfl⟩ (fun x_180 f_181 H locs hw hP hD hS => ?_)
                    obtain ⟨rfl, bx_180⟩ := hw
                    refine lv_if_eq (tgt := 146) hx hb dX12_needsGoOn_139 (by decide) (fun c_183 => ?_) (fun c_183 => ?_)
                    · skip
                      rw [← Int32.toInt_inj, ti_0] at c_183
                      refine lv_iconst (v := 0) hx hb dX12_needsGoOn_146 (by decide) ?_
                      exact hcut_174 0 (by decide) _ _ hP hS ls (lv_sub hl [0, 1, 2, 3, 4, 5, 6, 7, 8, 9] rfl)
                    · skip
                      rw [← Int32.toInt_inj, ti_0] at c_183
                      refine lv_iconst (v := 1) hx hb dX12_needsGoOn_142 (by decide) ?_
                      refine lv_goto (tgt := 147) hx hb dX12_needsGoOn_143 (by decide) ?_
                      exact hcut_174 1 (by decide) _ _ hP hS ls (lv_sub hl [0, 1, 2, 3, 4, 5, 6, 7, 8, 9] rfl)
              refine lv_if_ne (tgt := 63) hx hb dX12_needsGoOn_56 (by decide) (fun c_184 => ?_) (fun c_184 => ?_)
              · skip
                rw [← Int32.toInt_inj, ti_0] at c_184
                refine lv_aload_n hx hb dX12_needsGoOn_63 rfl (lv_at hl 6 rfl) ?_
                refine lv_iconst (v := 3) hx hb dX12_needsGoOn_64 (by decide) ?_
                refine lv_iload hx hb dX12_needsGoOn_65 (lv_at hl 3 rfl) ?_
                refine lv_imul hx hb dX12_needsGoOn_67 ?_
                refine lv_topi (fun x_185 ex_185 => ?_)
                have hx_185 : x_185.toInt = 3 * x_89.toInt := by rw [ex_185, ml_I (by rw [ti_3]; omega) (by rw [ti_3]; omega), ti_3]
                have bx_185 : (0 ≤ x_185.toInt ∧ x_185.toInt ≤ 21) := by constructor <;> omega
                refine lv_iload hx hb dX12_needsGoOn_68 (lv_at hl 0 rfl) ?_
                refine lv_iadd hx hb dX12_needsGoOn_70 ?_
                refine lv_topi (fun x_186 ex_186 => ?_)
                have hx_186 : x_186.toInt = x_185.toInt + y_121.toInt := by rw [ex_186, ad_I (by omega) (by omega)]
                have bx_186 : (0 ≤ x_186.toInt ∧ x_186.toInt ≤ 23) := by constructor <;> omega
                refine lv_iconst (v := 1) hx hb dX12_needsGoOn_71 (by decide) ?_
                refine lv_aload_n hx hb dX12_needsGoOn_72 rfl (lv_at hl 6 rfl) ?_
                refine tk_getP (D := (dC, dI)) (ci := 12) (v := .ref a_19) (C := RX12) (T := TX12) (N := 56) hx hb hU inlX12 hown hK hP mo0 hfo_126 rfl 18 (by decide) (hU _ wd_178) (fun _ h9 => h9) rfl dX12_needsGoOn_73 ?_
                refine lv_iload_n hx hb dX12_needsGoOn_76 rfl (lv_at hl 7 rfl) ?_
                obtain ⟨a_187, hga_187, ma_187, ka_187⟩ := hbg_147 (Int32.toNatClampNeg p1) (in_lt (vp_in_iff.mpr (by constructor <;> omega)))
                refine tk_aldA hx hb hK hP 4 ma_19 hfo_146 rfl (vp_in_iff.mpr (by constructor <;> omega)) hga_187 dX12_needsGoOn_77 ?_
                refine lv_iconst (v := 3) hx hb dX12_needsGoOn_78 (by decide) ?_
                refine lv_iload hx hb dX12_needsGoOn_79 (lv_at hl 4 rfl) ?_
                refine lv_imul hx hb dX12_needsGoOn_81 ?_
                refine lv_topi (fun x_188 ex_188 => ?_)
                have hx_188 : x_188.toInt = 3 * y_70.toInt := by rw [ex_188, ml_I (by rw [ti_3]; omega) (by rw [ti_3]; omega), ti_3]
                have bx_188 : (0 ≤ x_188.toInt ∧ x_188.toInt ≤ 309) := by constructor <;> omega
                refine lv_iload hx hb dX12_needsGoOn_82 (lv_at hl 0 rfl) ?_
                refine lv_iadd hx hb dX12_needsGoOn_84 ?_
                refine lv_topi (fun x_189 ex_189 => ?_)
                have hx_189 : x_189.toInt = x_188.toInt + y_121.toInt := by rw [ex_189, ad_I (by omega) (by omega)]
                have bx_189 : (0 ≤ x_189.toInt ∧ x_189.toInt ≤ 311) := by constructor <;> omega
                obtain ⟨g_191, hfo_190, hbg_191⟩ := un_585 (hG _ ma_187) ka_187
                refine tk_ildP hx hb hK hP 0 ma_187 hfo_190 rfl (vp_in_iff.mpr (by constructor <;> omega)) dX12_needsGoOn_85 ?_
                refine lv_topi (fun x_192 ex_192 => ?_)
                have bx_192 : ((-2147483648) ≤ x_192.toInt ∧ x_192.toInt ≤ 2147483647) := ⟨i32_lo _, i32_hi _⟩
                refine lv_iload_n hx hb dX12_needsGoOn_86 rfl (lv_at hl 8 rfl) ?_
                refine tk_ViP (As := [.int x_186, .int 1, .int x_192, .int p2]) (rest := []) (n := 4) hx hb hml hown hU hN hZ (s_X12_goesOn_k12 l (dC, dI) cI cL cZ cR cG cH Z kd L f_125 hG o0 mo0 ko0 x_186 (by constructor <;> omega) 1 (by decide) x_192 p2) wd_942 wd_943 wd_944 wd_5 wd_945 (by decide +kernel) ⟨Nat.le_of_ble_eq_true rfl, Nat.le_of_ble_eq_true rfl⟩ hK hP hD hS mo0 hfo_126 12 rfl rfl rfl hl.1 rfl (Nat.le_of_ble_eq_true rfl) dX12_needsGoOn_87 ⟨Nat.le_of_ble_eq_true rfl, Nat.le_of_ble_eq_true rfl⟩ (fun x_193 f_194 H locs hw hP hD hS => ?_)
                obtain ⟨rfl, bx_193⟩ := hw
                exact hcut_156 x_193 (by constructor <;> omega) _ _ hP hS ls (lv_sub hl [0, 1, 2, 3, 4, 5, 6, 7, 8] rfl)
              · skip
                rw [← Int32.toInt_inj, ti_0] at c_184
                refine lv_iconst (v := 0) hx hb dX12_needsGoOn_59 (by decide) ?_
                refine lv_goto (tgt := 90) hx hb dX12_needsGoOn_60 (by decide) ?_
                exact hcut_156 0 (by decide) _ _ hP hS ls (lv_sub hl [0, 1, 2, 3, 4, 5, 6, 7, 8] rfl)
        exact hloop_120 4 0 (by decide) 0 (by decide) 0 (by decide) f_73 hG _ _ hP hS hD hfr0 hfo_74 hfo_75 hfo_84 hfo_87 (by (try rw [ti_0]) <;> omega) ls hl
  exact hloop_69 105 0 (by decide) 0 (by decide) f hG _ _ hP hS hD hfr0 hfo_57 hfo_59 (by (try rw [ti_0]) <;> omega) (by (try rw [ti_0]) <;> omega) ls hl
