set_option maxHeartbeats 8000000 in
set_option maxRecDepth 100000 in
theorem s_X12_asks_k12 (l : Launch) (D : va_G) (cI cL cZ cR cG cH : ClassId) (Z : zT) (kd : Nat → Nat) (L : List Nat) (f : Nat → va_E) (hG : GI (okc cI cL cZ cR cG cH L kd) kd L f) (o0 : Nat) (mo0 : o0 ∈ L) (ko0 : kd o0 = 12) (p1 : Int32) (bp1 : (0 ≤ p1.toInt ∧ p1.toInt ≤ 7)) (p2 : Int32) (bp2 : (0 ≤ p2.toInt ∧ p2.toInt ≤ 13)) (p3 : Int32) (hxpre0 : ∀ b9 g9, fldR (f o0) 19 = some b9 → f b9 = .inl (cI, 20, .inl g9) → ∀ j : Nat, (j : Int) = p2.toInt + 1 → (g9 j).toInt ≤ 8 * p2.toInt + p1.toInt) : mPI l D cI cL cZ cR cG cH Z yX12_asks cX12_asks 14 (some .boolean) 3 67 [.ref o0, .int p1, .int p2, .int p3] L f (fun (r : Int32) (f9 : Nat → va_E) => GI (okc cI cL cZ cR cG cH L kd) kd L f9 ∧ (0 ≤ r.toInt ∧ r.toInt ≤ 1) ∧ (∀ b, kd b ≠ 581 → kd b ≠ 583 → kd b ≠ 585 → kd b ≠ 587 → f9 b = f b) ∧ (∀ b9 g9, fldR (f9 o0) 19 = some b9 → f9 b9 = .inl (cI, 20, .inl g9) → ∀ j : Nat, (j : Int) = p2.toInt + 1 → (g9 j).toInt ≤ 8 * p2.toInt + p1.toInt + 1)) := by
  obtain ⟨dC, dI⟩ := D
  refine Met.ofW (cc := cX12_asks) (maxL := 14) (ret := (some .boolean)) (by decide) rfl ?_
  intro p e s m args below meth c s₁ B hml hv
  obtain ⟨rfl, hP, hK, hD0, hN, hZ⟩ := hv
  have hx := B.exec
  have hb := B.bytes
  have hr := B.returns
  have hU : ∀ w ∈ wsU, w.before _ s = true := fun w h => atoms_spec (ws := wU yX12_asks cX12_asks 14 (some .boolean)) B.pre w (List.mem_cons_of_mem _ h)
  have hown : s.vm.findClass RX12 = some m.cls := findClass_of_methodNamed B.named
  have hlocks := B.notSynchronized
  have hD := pl_in hD0
  have hS : va_S (fun q => q ∈ L) s.heap s.heap [] := va_S.rf
  have hl := lv_entry ([.ref o0, .int p1, .int p2, .int p3]) (n := 14) (Nat.le_of_ble_eq_true rfl)
  rw [lg_entry_eq]
  generalize (lg_sl ([.ref o0, .int p1, .int p2, .int p3]) ++ List.replicate (14 - (lg_sl ([.ref o0, .int p1, .int p2, .int p3])).length) Slot.unset).toArray = ls at hl ⊢
  have hl : lv_has ls 14 [(0, .ref o0), (1, .int p1), (2, .int p2), (3, .int p3)] := hl
  have bp3 : ((-2147483648) ≤ p3.toInt ∧ p3.toInt ≤ 2147483647) := ⟨i32_lo _, i32_hi _⟩
  have hfr0 : ∀ b, kd b ≠ 581 → kd b ≠ 583 → kd b ≠ 585 → kd b ≠ 587 → f b = f b := fun _ _ _ _ _ => rfl
  obtain ⟨a_2, a_3, a_4, v_5, a_6, v_7, v_8, v_9, v_10, v_11, v_12, v_13, v_14, v_15, v_16, a_17, a_18, a_19, a_20, a_21, a_22, a_23, a_24, v_25, v_26, v_27, v_28, v_29, a_30, v_31, a_32, a_33, v_34, v_35, a_36, v_37, a_38, a_39, v_40, v_41, a_42, a_43, a_44, v_45, a_46, a_47, a_48, a_49, a_50, a_51, a_52, a_53, a_54, v_55, v_56, a_57, hfo_1, ⟨ma_2, ka_2⟩, ⟨ma_3, ka_3⟩, ⟨ma_4, ka_4⟩, bv_5, ⟨ma_6, ka_6⟩, bv_7, bv_8, bv_13, bv_14, bv_15, ⟨ma_17, ka_17⟩, ⟨ma_18, ka_18⟩, ⟨ma_19, ka_19⟩, ⟨ma_20, ka_20⟩, ⟨ma_21, ka_21⟩, ⟨ma_22, ka_22⟩, ⟨ma_23, ka_23⟩, ⟨ma_24, ka_24⟩, bv_25, bv_27, bv_29, ⟨ma_30, ka_30⟩, bv_31, ⟨ma_32, ka_32⟩, ⟨ma_33, ka_33⟩, bv_34, ⟨ma_36, ka_36⟩, bv_37, ⟨ma_38, ka_38⟩, ⟨ma_39, ka_39⟩, bv_40, ⟨ma_42, ka_42⟩, ⟨ma_43, ka_43⟩, ⟨ma_44, ka_44⟩, bv_45, ⟨ma_46, ka_46⟩, ⟨ma_47, ka_47⟩, ⟨ma_48, ka_48⟩, ⟨ma_49, ka_49⟩, ⟨ma_50, ka_50⟩, ⟨ma_51, ka_51⟩, ⟨ma_52, ka_52⟩, ⟨ma_53, ka_53⟩, ⟨ma_54, ka_54⟩, bv_55, ⟨ma_57, ka_57⟩⟩ := un_12 (hG _ mo0) ko0
  have bv_9 : ((-2147483648) ≤ v_9.toInt ∧ v_9.toInt ≤ 2147483647) := ⟨i32_lo _, i32_hi _⟩
  have bv_10 : ((-2147483648) ≤ v_10.toInt ∧ v_10.toInt ≤ 2147483647) := ⟨i32_lo _, i32_hi _⟩
  have bv_11 : ((-2147483648) ≤ v_11.toInt ∧ v_11.toInt ≤ 2147483647) := ⟨i32_lo _, i32_hi _⟩
  have bv_12 : ((-2147483648) ≤ v_12.toInt ∧ v_12.toInt ≤ 2147483647) := ⟨i32_lo _, i32_hi _⟩
  have bv_16 : ((-2147483648) ≤ v_16.toInt ∧ v_16.toInt ≤ 2147483647) := ⟨i32_lo _, i32_hi _⟩
  have bv_26 : ((-2147483648) ≤ v_26.toInt ∧ v_26.toInt ≤ 2147483647) := ⟨i32_lo _, i32_hi _⟩
  have bv_28 : ((-2147483648) ≤ v_28.toInt ∧ v_28.toInt ≤ 2147483647) := ⟨i32_lo _, i32_hi _⟩
  have bv_35 : ((-2147483648) ≤ v_35.toInt ∧ v_35.toInt ≤ 2147483647) := ⟨i32_lo _, i32_hi _⟩
  have bv_41 : ((-2147483648) ≤ v_41.toInt ∧ v_41.toInt ≤ 2147483647) := ⟨i32_lo _, i32_hi _⟩
  have bv_56 : ((-2147483648) ≤ v_56.toInt ∧ v_56.toInt ≤ 2147483647) := ⟨i32_lo _, i32_hi _⟩
  obtain ⟨g_59, hfo_58, hbg_59⟩ := un_587 (hG _ ma_21) ka_21
  have has0 := hxpre0 a_21 g_59 (by rw [hfo_1]; rfl) hfo_58
  refine lv_iload_n hx hb dX12_asks_0 rfl (lv_at hl 3 rfl) ?_
  refine lv_bipush (v := 9) hx hb dX12_asks_1 (by decide) ?_
  refine lv_idiv hx hb dX12_asks_3 (by decide) ?_
  refine lv_topi (fun x_60 ex_60 => ?_)
  have bx_60 : ((-2147483648) ≤ x_60.toInt ∧ x_60.toInt ≤ 2147483647) := ⟨i32_lo _, i32_hi _⟩
  refine lv_aload_n hx hb dX12_asks_4 rfl (lv_at hl 0 rfl) ?_
  refine lv_iload_n hx hb dX12_asks_5 rfl (lv_at hl 1 rfl) ?_
  refine lv_iconst (v := 0) hx hb dX12_asks_6 (by decide) ?_
  refine tk_ViP (As := [.int p1, .int 0]) (rest := [.int x_60]) (n := 2) hx hb hml hown hU hN hZ (s_X12_ofRule_k12 l (dC, dI) cI cL cZ cR cG cH Z kd L f hG o0 mo0 ko0 p1 (by constructor <;> omega) 0 (by decide)) wd_894 wd_895 wd_896 wd_5 wd_897 (by decide +kernel) ⟨Nat.le_of_ble_eq_true rfl, Nat.le_of_ble_eq_true rfl⟩ hK hP hD hS mo0 hfo_1 12 rfl rfl rfl hl.1 rfl (Nat.le_of_ble_eq_true rfl) dX12_asks_7 ⟨Nat.le_of_ble_eq_true rfl, Nat.le_of_ble_eq_true rfl⟩ (fun x_61 f_62 H locs hw hP hD hS => ?_)
  obtain ⟨rfl, bx_61⟩ := hw
  refine lv_icmp_eq (tgt := 15) hx hb dX12_asks_10 (by decide) (fun c_64 => ?_) (fun c_64 => ?_)
  · skip
    rw [← Int32.toInt_inj] at c_64
    refine lv_iload_n hx hb dX12_asks_15 rfl (lv_at hl 3 rfl) ?_
    refine lv_bipush (v := 9) hx hb dX12_asks_16 (by decide) ?_
    refine lv_irem hx hb dX12_asks_18 (by decide) ?_
    refine lv_topi (fun x_65 ex_65 => ?_)
    have bx_65 : ((-2147483648) ≤ x_65.toInt ∧ x_65.toInt ≤ 2147483647) := ⟨i32_lo _, i32_hi _⟩
    refine lv_aload_n hx hb dX12_asks_19 rfl (lv_at hl 0 rfl) ?_
    refine lv_iload_n hx hb dX12_asks_20 rfl (lv_at hl 1 rfl) ?_
    refine lv_iconst (v := 1) hx hb dX12_asks_21 (by decide) ?_
    refine tk_ViP (As := [.int p1, .int 1]) (rest := [.int x_65]) (n := 2) hx hb hml hown hU hN hZ (s_X12_ofRule_k12 l (dC, dI) cI cL cZ cR cG cH Z kd L f hG o0 mo0 ko0 p1 (by constructor <;> omega) 1 (by decide)) wd_894 wd_895 wd_896 wd_5 wd_897 (by decide +kernel) ⟨Nat.le_of_ble_eq_true rfl, Nat.le_of_ble_eq_true rfl⟩ hK hP hD hS mo0 hfo_1 12 rfl rfl rfl hl.1 rfl (Nat.le_of_ble_eq_true rfl) dX12_asks_22 ⟨Nat.le_of_ble_eq_true rfl, Nat.le_of_ble_eq_true rfl⟩ (fun x_66 f_67 H locs hw hP hD hS => ?_)
    obtain ⟨rfl, bx_66⟩ := hw
    have hcut_70 : ∀ (y_69 : Int32), (0 ≤ y_69.toInt ∧ y_69.toInt ≤ 1) → ∀ (ls : Array Slot), lv_has ls 14 [(0, .ref o0), (1, .int p1), (2, .int p2), (3, .int p3)] → W p l e (headSpec (wU yX12_asks cX12_asks 14 (some .boolean)) { frames := 3, cells := 0, slots := 0, locals := 67 }).room s m [.ref o0, .int p1, .int p2, .int p3].toArray below meth c H locs 0 0 (MQ below (va_Qi (fun (r : Int32) (f9 : Nat → va_E) => GI (okc cI cL cZ cR cG cH L kd) kd L f9 ∧ (0 ≤ r.toInt ∧ r.toInt ≤ 1) ∧ (∀ b, kd b ≠ 581 → kd b ≠ 583 → kd b ≠ 585 → kd b ≠ 587 → f9 b = f b) ∧ (∀ b9 g9, fldR (f9 o0) 19 = some b9 → f9 b9 = .inl (cI, 20, .inl g9) → ∀ j : Nat, (j : Int) = p2.toInt + 1 → (g9 j).toInt ≤ 8 * p2.toInt + p1.toInt + 1)) (qP (dC, dI) cI cL cZ cR cG cH L) (fun q => q ∈ L)) [.ref o0, .int p1, .int p2, .int p3].toArray s 0 0 (fun q => q ∈ L)) (F0 m 33 ls [.int y_69]) := by
      intro y_69 by_69 ls hl
      refine lv_istore (lv' := [(4, .int y_69), (0, .ref o0), (1, .int p1), (2, .int p2), (3, .int p3)]) hx hb dX12_asks_33 hl (by decide) rfl (fun ls hl => ?_)
      refine lv_aload_n hx hb dX12_asks_35 rfl (lv_at hl 1 rfl) ?_
      refine lv_iload_n hx hb dX12_asks_36 rfl (lv_at hl 2 rfl) ?_
      refine lv_iconst (v := 2) hx hb dX12_asks_37 (by decide) ?_
      refine tk_ViP (As := [.int p1, .int 2]) (rest := []) (n := 2) hx hb hml hown hU hN hZ (s_X12_ofRule_k12_c2_2 l (dC, dI) cI cL cZ cR cG cH Z kd L f hG o0 mo0 ko0 p1 (by constructor <;> omega)) wd_894 wd_895 wd_896 wd_5 wd_897 (by decide +kernel) ⟨Nat.le_of_ble_eq_true rfl, Nat.le_of_ble_eq_true rfl⟩ hK hP hD hS mo0 hfo_1 12 rfl rfl rfl hl.1 rfl (Nat.le_of_ble_eq_true rfl) dX12_asks_38 ⟨Nat.le_of_ble_eq_true rfl, Nat.le_of_ble_eq_true rfl⟩ (fun x_71 f_72 H locs hw hP hD hS => ?_)
      obtain ⟨rfl, bx_71⟩ := hw
      refine lv_istore (lv' := [(5, .int x_71), (4, .int y_69), (0, .ref o0), (1, .int p1), (2, .int p2), (3, .int p3)]) hx hb dX12_asks_41 hl (by decide) rfl (fun ls hl => ?_)
      refine lv_iload hx hb dX12_asks_43 (lv_at hl 1 rfl) ?_
      have hcut_75 : ∀ (y_74 : Int32), (0 ≤ y_74.toInt ∧ y_74.toInt ≤ 1) → ∀ (ls : Array Slot), lv_has ls 14 [(5, .int x_71), (4, .int y_69), (0, .ref o0), (1, .int p1), (2, .int p2), (3, .int p3)] → W p l e (headSpec (wU yX12_asks cX12_asks 14 (some .boolean)) { frames := 3, cells := 0, slots := 0, locals := 67 }).room s m [.ref o0, .int p1, .int p2, .int p3].toArray below meth c H locs 0 0 (MQ below (va_Qi (fun (r : Int32) (f9 : Nat → va_E) => GI (okc cI cL cZ cR cG cH L kd) kd L f9 ∧ (0 ≤ r.toInt ∧ r.toInt ≤ 1) ∧ (∀ b, kd b ≠ 581 → kd b ≠ 583 → kd b ≠ 585 → kd b ≠ 587 → f9 b = f b) ∧ (∀ b9 g9, fldR (f9 o0) 19 = some b9 → f9 b9 = .inl (cI, 20, .inl g9) → ∀ j : Nat, (j : Int) = p2.toInt + 1 → (g9 j).toInt ≤ 8 * p2.toInt + p1.toInt + 1)) (qP (dC, dI) cI cL cZ cR cG cH L) (fun q => q ∈ L)) [.ref o0, .int p1, .int p2, .int p3].toArray s 0 0 (fun q => q ∈ L)) (F0 m 64 ls [.int y_74]) := by
        intro y_74 by_74 ls hl
        refine lv_istore (lv' := [(6, .int y_74), (5, .int x_71), (4, .int y_69), (0, .ref o0), (1, .int p1), (2, .int p2), (3, .int p3)]) hx hb dX12_asks_64 hl (by decide) rfl (fun ls hl => ?_)
        refine lv_iload hx hb dX12_asks_66 (lv_at hl 2 rfl) ?_
        have hcut_77 : ∀ (y_76 : Int32), (0 ≤ y_76.toInt ∧ y_76.toInt ≤ 1) → ∀ (ls : Array Slot), lv_has ls 14 [(6, .int y_74), (5, .int x_71), (4, .int y_69), (0, .ref o0), (1, .int p1), (2, .int p2), (3, .int p3)] → W p l e (headSpec (wU yX12_asks cX12_asks 14 (some .boolean)) { frames := 3, cells := 0, slots := 0, locals := 67 }).room s m [.ref o0, .int p1, .int p2, .int p3].toArray below meth c H locs 0 0 (MQ below (va_Qi (fun (r : Int32) (f9 : Nat → va_E) => GI (okc cI cL cZ cR cG cH L kd) kd L f9 ∧ (0 ≤ r.toInt ∧ r.toInt ≤ 1) ∧ (∀ b, kd b ≠ 581 → kd b ≠ 583 → kd b ≠ 585 → kd b ≠ 587 → f9 b = f b) ∧ (∀ b9 g9, fldR (f9 o0) 19 = some b9 → f9 b9 = .inl (cI, 20, .inl g9) → ∀ j : Nat, (j : Int) = p2.toInt + 1 → (g9 j).toInt ≤ 8 * p2.toInt + p1.toInt + 1)) (qP (dC, dI) cI cL cZ cR cG cH L) (fun q => q ∈ L)) [.ref o0, .int p1, .int p2, .int p3].toArray s 0 0 (fun q => q ∈ L)) (F0 m 102 ls [.int y_76]) := by
          intro y_76 by_76 ls hl
          refine lv_istore (lv' := [(7, .int y_76), (6, .int y_74), (5, .int x_71), (4, .int y_69), (0, .ref o0), (1, .int p1), (2, .int p2), (3, .int p3)]) hx hb dX12_asks_102 hl (by decide) rfl (fun ls hl => ?_)
          refine lv_iload hx hb dX12_asks_104 (lv_at hl 1 rfl) ?_
          refine lv_if_ne (tgt := 116) hx hb dX12_asks_106 (by decide) (fun c_78 => ?_) (fun c_78 => ?_)
          · skip
            rw [← Int32.toInt_inj, ti_0] at c_78
            refine lv_aload_n hx hb dX12_asks_116 rfl (lv_at hl 4 rfl) ?_
            refine tk_getP (D := (dC, dI)) (ci := 12) (v := .ref a_21) (C := RX12) (T := TX12) (N := 56) hx hb hU inlX12 hown hK hP mo0 hfo_1 rfl 19 (by decide) (hU _ wd_179) (fun _ h9 => h9) rfl dX12_asks_117 ?_
            refine lv_iload_n hx hb dX12_asks_120 rfl (lv_at hl 6 rfl) ?_
            refine lv_iconst (v := 1) hx hb dX12_asks_121 (by decide) ?_
            refine lv_iadd hx hb dX12_asks_122 ?_
            refine lv_topi (fun x_79 ex_79 => ?_)
            have hx_79 : x_79.toInt = p2.toInt + 1 := by rw [ex_79, ad_I (by rw [ti_1]; omega) (by rw [ti_1]; omega), ti_1]
            have bx_79 : (1 ≤ x_79.toInt ∧ x_79.toInt ≤ 14) := by constructor <;> omega
            refine tk_ildP hx hb hK hP 0 ma_21 hfo_58 rfl (vp_in_iff.mpr (by constructor <;> omega)) dX12_asks_123 ?_
            refine lv_topi (fun x_80 ex_80 => ?_)
            have hx_80 : 0 ≤ x_80.toInt ∧ x_80.toInt ≤ 8 * x_79.toInt := by have hc9 := cl_I (i := x_79) (by omega); have h8 := hbg_59 (Int32.toNatClampNeg x_79); rw [ex_80]; constructor <;> omega
            have bx_80 : (0 ≤ x_80.toInt ∧ x_80.toInt ≤ 112) := by constructor <;> omega
            have has1 : x_80.toInt ≤ 8 * p2.toInt + p1.toInt := by have hc9 := cl_I (i := x_79) (by omega); rw [ex_80]; exact has0 _ (by omega)
            refine lv_istore (lv' := [(8, .int x_80), (7, .int y_76), (6, .int y_74), (5, .int x_71), (4, .int y_69), (0, .ref o0), (1, .int p1), (2, .int p2), (3, .int p3)]) hx hb dX12_asks_124 hl (by decide) rfl (fun ls hl => ?_)
            refine lv_iconst (v := 0) hx hb dX12_asks_126 (by decide) ?_
            refine lv_istore (lv' := [(9, .int 0), (8, .int x_80), (7, .int y_76), (6, .int y_74), (5, .int x_71), (4, .int y_69), (0, .ref o0), (1, .int p1), (2, .int p2), (3, .int p3)]) hx hb dX12_asks_127 hl (by decide) rfl (fun ls hl => ?_)
            refine lv_iconst (v := 0) hx hb dX12_asks_129 (by decide) ?_
            refine lv_istore (lv' := [(10, .int 0), (9, .int 0), (8, .int x_80), (7, .int y_76), (6, .int y_74), (5, .int x_71), (4, .int y_69), (0, .ref o0), (1, .int p1), (2, .int p2), (3, .int p3)]) hx hb dX12_asks_130 hl (by decide) rfl (fun ls hl => ?_)
            refine lv_iconst (v := 0) hx hb dX12_asks_132 (by decide) ?_
            refine lv_istore (lv' := [(11, .int 0), (10, .int 0), (9, .int 0), (8, .int x_80), (7, .int y_76), (6, .int y_74), (5, .int x_71), (4, .int y_69), (0, .ref o0), (1, .int p1), (2, .int p2), (3, .int p3)]) hx hb dX12_asks_133 hl (by decide) rfl (fun ls hl => ?_)
            have hloop_105 : ∀ (n : Nat), ∀ (y_106 : Int32), (0 ≤ y_106.toInt ∧ y_106.toInt ≤ 3) → ∀ (y_107 : Int32), (0 ≤ y_107.toInt ∧ y_107.toInt ≤ 1) → ∀ (y_108 : Int32), ((-2147483648) ≤ y_108.toInt ∧ y_108.toInt ≤ 2147483647) → ∀ (f_110 : Nat → va_E), GI (okc cI cL cZ cR cG cH L kd) kd L f_110 → ∀ (H : Heap) (locs : List Loc), va_P (dC, dI) vwCl (va_pl L f_110) H → va_S (fun q => q ∈ L) s.heap H locs → va_D (fun q => q ∈ L) (va_pl L f_110) → (∀ b, kd b ≠ 581 → kd b ≠ 583 → kd b ≠ 585 → kd b ≠ 587 → f_110 b = f b) → (f_110 o0 = .inr (12, [.ref a_2, .ref a_3, .ref a_4, .int v_5, .ref a_6, .int v_7, .int v_8, .int v_9, .int v_10, .int v_11, .int v_12, .int v_13, .int v_14, .int v_15, .int v_16, .ref a_17, .ref a_18, .ref a_19, .ref a_20, .ref a_21, .ref a_22, .ref a_23, .ref a_24, .int v_25, .int v_26, .int v_27, .int v_28, .int v_29, .ref a_30, .int v_31, .ref a_32, .ref a_33, .int v_34, .int v_35, .ref a_36, .int v_37, .ref a_38, .ref a_39, .int v_40, .int v_41, .ref a_42, .ref a_43, .ref a_44, .int v_45, .ref a_46, .ref a_47, .ref a_48, .ref a_49, .ref a_50, .ref a_51, .ref a_52, .ref a_53, .ref a_54, .int v_55, .int v_56, .ref a_57])) → (f_110 a_21 = .inl (cI, 20, .inl g_59)) → 3 - y_106.toInt < (n : Int) → ∀ (ls : Array Slot), lv_has ls 14 [(11, .int y_106), (10, .int y_107), (9, .int y_108), (8, .int x_80), (7, .int y_76), (6, .int y_74), (5, .int x_71), (4, .int y_69), (0, .ref o0), (1, .int p1), (2, .int p2), (3, .int p3)] → W p l e (headSpec (wU yX12_asks cX12_asks 14 (some .boolean)) { frames := 3, cells := 0, slots := 0, locals := 67 }).room s m [.ref o0, .int p1, .int p2, .int p3].toArray below meth c H locs 0 0 (MQ below (va_Qi (fun (r : Int32) (f9 : Nat → va_E) => GI (okc cI cL cZ cR cG cH L kd) kd L f9 ∧ (0 ≤ r.toInt ∧ r.toInt ≤ 1) ∧ (∀ b, kd b ≠ 581 → kd b ≠ 583 → kd b ≠ 585 → kd b ≠ 587 → f9 b = f b) ∧ (∀ b9 g9, fldR (f9 o0) 19 = some b9 → f9 b9 = .inl (cI, 20, .inl g9) → ∀ j : Nat, (j : Int) = p2.toInt + 1 → (g9 j).toInt ≤ 8 * p2.toInt + p1.toInt + 1)) (qP (dC, dI) cI cL cZ cR cG cH L) (fun q => q ∈ L)) [.ref o0, .int p1, .int p2, .int p3].toArray s 0 0 (fun q => q ∈ L)) (F0 m 135 ls []) := by
              intro n
              induction n with
              | zero => intro y_106 by_106 y_107 by_107 y_108 by_108 f_110 hG H locs hP hS hD hfr0 hfo_111 hfo_112 hmuhloop_105 ls hl; exfalso; omega
              | succ n ih_hloop_105 =>
                intro y_106 by_106 y_107 by_107 y_108 by_108 f_110 hG H locs hP hS hD hfr0 hfo_111 hfo_112 hmuhloop_105 ls hl
                refine lv_iload hx hb dX12_asks_135 (lv_at hl 0 rfl) ?_
                refine lv_iconst (v := 3) hx hb dX12_asks_137 (by decide) ?_
                refine lv_icmp_ge (tgt := 276) hx hb dX12_asks_138 (by decide) (fun c_113 => ?_) (fun c_113 => ?_)
                · skip
                  rw [Int32.le_iff_toInt_le, ti_3] at c_113
                  refine lv_iload hx hb dX12_asks_276 (lv_at hl 4 rfl) ?_
                  refine lv_if_eq (tgt := 292) hx hb dX12_asks_278 (by decide) (fun c_114 => ?_) (fun c_114 => ?_)
                  · skip
                    rw [← Int32.toInt_inj, ti_0] at c_114
                    refine lv_iload hx hb dX12_asks_292 (lv_at hl 1 rfl) ?_
                    refine lv_if_eq (tgt := 299) hx hb dX12_asks_294 (by decide) (fun c_115 => ?_) (fun c_115 => ?_)
                    · skip
                      rw [← Int32.toInt_inj, ti_0] at c_115
                      refine lv_aload_n hx hb dX12_asks_299 rfl (lv_at hl 8 rfl) ?_
                      refine tk_getP (D := (dC, dI)) (ci := 12) (v := .ref a_19) (C := RX12) (T := TX12) (N := 56) hx hb hU inlX12 hown hK hP mo0 hfo_111 rfl 17 (by decide) (hU _ wd_177) (fun _ h9 => h9) rfl dX12_asks_300 ?_
                      refine lv_iload_n hx hb dX12_asks_303 rfl (lv_at hl 10 rfl) ?_
                      refine lv_iconst (v := 1) hx hb dX12_asks_304 (by decide) ?_
                      refine lv_iadd hx hb dX12_asks_305 ?_
                      refine lv_topi (fun x_116 ex_116 => ?_)
                      have hx_116 : x_116.toInt = p2.toInt + 1 := by rw [ex_116, ad_I (by rw [ti_1]; omega) (by rw [ti_1]; omega), ti_1]
                      have bx_116 : (1 ≤ x_116.toInt ∧ x_116.toInt ≤ 14) := by constructor <;> omega
                      obtain ⟨g_118, hfo_117, hbg_118⟩ := un_584 (hG _ ma_19) ka_19
                      obtain ⟨a_119, hga_119, ma_119, ka_119⟩ := hbg_118 (Int32.toNatClampNeg x_116) (in_lt (vp_in_iff.mpr (by constructor <;> omega)))
                      refine tk_aldA hx hb hK hP 4 ma_19 hfo_117 rfl (vp_in_iff.mpr (by constructor <;> omega)) hga_119 dX12_asks_306 ?_
                      refine lv_iload hx hb dX12_asks_307 (lv_at hl 3 rfl) ?_
                      refine lv_iload_n hx hb dX12_asks_309 rfl (lv_at hl 9 rfl) ?_
                      obtain ⟨g_121, hfo_120, hbg_121⟩ := un_583 (hG _ ma_119) ka_119
                      refine tk_istP hx hb hK hP hD hS 0 ma_119 hfo_120 rfl (vp_in_iff.mpr (by constructor <;> omega)) dX12_asks_310 (fun H locs hP hD hS => ?_)
                      obtain ⟨f_123, ef_123⟩ : ∃ y : Nat → va_E, y = va_up f_110 a_119 (.inl (cI, 160, .inl (upd g_121 (Int32.toNatClampNeg x_80) p1))) := ⟨_, rfl⟩
                      have hP : va_P (dC, dI) vwCl (va_pl L f_123) H := by rw [ef_123]; exact hP
                      have hD : va_D (fun q => q ∈ L) (va_pl L f_123) := by rw [ef_123]; exact hD
                      have hG : GI (okc cI cL cZ cR cG cH L kd) kd L f_123 := by rw [ef_123]; exact hG.set a_119 (mk_583 ka_119 ⟨_, rfl, okI_up hbg_121 (by constructor <;> omega) _⟩)
                      have hfo_124 : f_123 o0 = .inr (12, [.ref a_2, .ref a_3, .ref a_4, .int v_5, .ref a_6, .int v_7, .int v_8, .int v_9, .int v_10, .int v_11, .int v_12, .int v_13, .int v_14, .int v_15, .int v_16, .ref a_17, .ref a_18, .ref a_19, .ref a_20, .ref a_21, .ref a_22, .ref a_23, .ref a_24, .int v_25, .int v_26, .int v_27, .int v_28, .int v_29, .ref a_30, .int v_31, .ref a_32, .ref a_33, .int v_34, .int v_35, .ref a_36, .int v_37, .ref a_38, .ref a_39, .int v_40, .int v_41, .ref a_42, .ref a_43, .ref a_44, .int v_45, .ref a_46, .ref a_47, .ref a_48, .ref a_49, .ref a_50, .ref a_51, .ref a_52, .ref a_53, .ref a_54, .int v_55, .int v_56, .ref a_57]) := by rw [ef_123, up_ne (kd_ne ka_119 ko0 (by decide))]; exact hfo_111
                      have hfo_125 : f_123 a_21 = .inl (cI, 20, .inl g_59) := by rw [ef_123, up_ne (kd_ne ka_119 ka_21 (by decide))]; exact hfo_112
                      have hfo_126 : f_123 a_19 = .inl (cG, 20, .inr (.inr (.inr (.inr g_118)))) := by rw [ef_123, up_ne (kd_ne ka_119 ka_19 (by decide))]; exact hfo_117
                      have hfr0 : ∀ b, kd b ≠ 581 → kd b ≠ 583 → kd b ≠ 585 → kd b ≠ 587 → f_123 b = f b := fun b q581 q583 q585 q587 => (congrFun ef_123 b).trans ((up_ne (fun e9 => q583 (by rw [e9]; exact ka_119))).trans (hfr0 b q581 q583 q585 q587))
                      have hfo_127 : f_123 a_119 = .inl (cI, 160, .inl (upd g_121 (Int32.toNatClampNeg x_80) p1)) := by rw [ef_123]; exact up_self
                      refine lv_aload_n hx hb dX12_asks_311 rfl (lv_at hl 8 rfl) ?_
                      refine tk_getP (D := (dC, dI)) (ci := 12) (v := .ref a_21) (C := RX12) (T := TX12) (N := 56) hx hb hU inlX12 hown hK hP mo0 hfo_124 rfl 19 (by decide) (hU _ wd_179) (fun _ h9 => h9) rfl dX12_asks_312 ?_
                      refine lv_iload_n hx hb dX12_asks_315 rfl (lv_at hl 10 rfl) ?_
                      refine lv_iconst (v := 1) hx hb dX12_asks_316 (by decide) ?_
                      refine lv_iadd hx hb dX12_asks_317 ?_
                      refine lv_topi (fun x_128 ex_128 => ?_)
                      have hx_128 : x_128.toInt = p2.toInt + 1 := by rw [ex_128, ad_I (by rw [ti_1]; omega) (by rw [ti_1]; omega), ti_1]
                      have bx_128 : (1 ≤ x_128.toInt ∧ x_128.toInt ≤ 14) := by constructor <;> omega
                      refine lv_iload hx hb dX12_asks_318 (lv_at hl 3 rfl) ?_
                      refine lv_iconst (v := 1) hx hb dX12_asks_320 (by decide) ?_
                      refine lv_iadd hx hb dX12_asks_321 ?_
                      refine lv_topi (fun x_129 ex_129 => ?_)
                      have hx_129 : x_129.toInt = x_80.toInt + 1 := by rw [ex_129, ad_I (by rw [ti_1]; omega) (by rw [ti_1]; omega), ti_1]
                      have bx_129 : (1 ≤ x_129.toInt ∧ x_129.toInt ≤ 112) := by constructor <;> omega
                      refine tk_istP hx hb hK hP hD hS 0 ma_21 hfo_125 rfl (vp_in_iff.mpr (by constructor <;> omega)) dX12_asks_322 (fun H locs hP hD hS => ?_)
                      have hc9 := cl_I (i := x_128) (by omega)
                      obtain ⟨g_130, eqg_130⟩ : ∃ y : Nat → Int32, y = upd g_59 (Int32.toNatClampNeg x_128) x_129 := ⟨_, rfl⟩
                      rw [← eqg_130] at hP hD
                      have hbg_130 : ∀ j : Nat, 0 ≤ (g_130 j).toInt ∧ (g_130 j).toInt ≤ 8 * (j : Int) := by rw [eqg_130]; exact (by intro j; by_cases hj : j = Int32.toNatClampNeg x_128; (· subst hj; rw [pk_us]; constructor <;> omega); (· rw [pk_un hj]; exact hbg_59 j))
                      obtain ⟨f_132, ef_132⟩ : ∃ y : Nat → va_E, y = va_up f_123 a_21 (.inl (cI, 20, .inl g_130)) := ⟨_, rfl⟩
                      have hP : va_P (dC, dI) vwCl (va_pl L f_132) H := by rw [ef_132]; exact hP
                      have hD : va_D (fun q => q ∈ L) (va_pl L f_132) := by rw [ef_132]; exact hD
                      have hG : GI (okc cI cL cZ cR cG cH L kd) kd L f_132 := by rw [ef_132]; exact hG.set a_21 (mk_587 ka_21 ⟨_, rfl, hbg_130⟩)
                      have hfo_133 : f_132 o0 = .inr (12, [.ref a_2, .ref a_3, .ref a_4, .int v_5, .ref a_6, .int v_7, .int v_8, .int v_9, .int v_10, .int v_11, .int v_12, .int v_13, .int v_14, .int v_15, .int v_16, .ref a_17, .ref a_18, .ref a_19, .ref a_20, .ref a_21, .ref a_22, .ref a_23, .ref a_24, .int v_25, .int v_26, .int v_27, .int v_28, .int v_29, .ref a_30, .int v_31, .ref a_32, .ref a_33, .int v_34, .int v_35, .ref a_36, .int v_37, .ref a_38, .ref a_39, .int v_40, .int v_41, .ref a_42, .ref a_43, .ref a_44, .int v_45, .ref a_46, .ref a_47, .ref a_48, .ref a_49, .ref a_50, .ref a_51, .ref a_52, .ref a_53, .ref a_54, .int v_55, .int v_56, .ref a_57]) := by rw [ef_132, up_ne (kd_ne ka_21 ko0 (by decide))]; exact hfo_124
                      have hfo_134 : f_132 a_19 = .inl (cG, 20, .inr (.inr (.inr (.inr g_118)))) := by rw [ef_132, up_ne (kd_ne ka_21 ka_19 (by decide))]; exact hfo_126
                      have hfr0 : ∀ b, kd b ≠ 581 → kd b ≠ 583 → kd b ≠ 585 → kd b ≠ 587 → f_132 b = f b := fun b q581 q583 q585 q587 => (congrFun ef_132 b).trans ((up_ne (fun e9 => q587 (by rw [e9]; exact ka_21))).trans (hfr0 b q581 q583 q585 q587))
                      have hfo_135 : f_132 a_21 = .inl (cI, 20, .inl g_130) := by rw [ef_132]; exact up_self
                      have ql_136 : x_129 = g_130 (Int32.toNatClampNeg x_128) := by rw [eqg_130, pk_us]
                      refine lv_iload hx hb dX12_asks_323 (lv_at hl 2 rfl) ?_
                      refine lv_if_eq (tgt := 332) hx hb dX12_asks_325 (by decide) (fun c_137 => ?_) (fun c_137 => ?_)
                      · skip
                        rw [← Int32.toInt_inj, ti_0] at c_137
                        refine lv_iconst (v := 0) hx hb dX12_asks_332 (by decide) ?_
                        exact W.zret (v := 0) (ty := .boolean) hx hb hr rfl (fun t ht hW => ⟨⟨0, f_132, rfl, ⟨hG, (by decide), hfr0, (fun b9 g9 h1 h2 => by rw [hfo_133] at h1; obtain rfl := Option.some.inj h1; rw [hfo_135] at h2; cases h2; intro j hj; have hc9 := cl_I (i := x_128) (by omega); rw [eqg_130, show j = Int32.toNatClampNeg x_128 by omega, pk_us]; omega)⟩, by rw [ht]; exact hP, va_K.moved hW.alike hK, pl_in hD⟩, hS.F ht⟩) hS.2.2 dX12_asks_333
                      · skip
                        rw [← Int32.toInt_inj, ti_0] at c_137
                        refine lv_iconst (v := 1) hx hb dX12_asks_328 (by decide) ?_
                        refine lv_goto (tgt := 333) hx hb dX12_asks_329 (by decide) ?_
                        exact W.zret (v := 1) (ty := .boolean) hx hb hr rfl (fun t ht hW => ⟨⟨1, f_132, rfl, ⟨hG, (by decide), hfr0, (fun b9 g9 h1 h2 => by rw [hfo_133] at h1; obtain rfl := Option.some.inj h1; rw [hfo_135] at h2; cases h2; intro j hj; have hc9 := cl_I (i := x_128) (by omega); rw [eqg_130, show j = Int32.toNatClampNeg x_128 by omega, pk_us]; omega)⟩, by rw [ht]; exact hP, va_K.moved hW.alike hK, pl_in hD⟩, hS.F ht⟩) hS.2.2 dX12_asks_333
                    · skip
                      rw [← Int32.toInt_inj, ti_0] at c_115
                      refine lv_iconst (v := 1) hx hb dX12_asks_297 (by decide) ?_
                      exact W.zret (v := 1) (ty := .boolean) hx hb hr rfl (fun t ht hW => ⟨⟨1, f_110, rfl, ⟨hG, (by decide), hfr0, (fun b9 g9 h1 h2 => by rw [hfo_111] at h1; obtain rfl := Option.some.inj h1; rw [hfo_112] at h2; cases h2; intro j hj; have h8 := has0 j hj; omega)⟩, by rw [ht]; exact hP, va_K.moved hW.alike hK, pl_in hD⟩, hS.F ht⟩) hS.2.2 dX12_asks_298
                  · skip
                    rw [← Int32.toInt_inj, ti_0] at c_114
                    refine lv_iload hx hb dX12_asks_281 (lv_at hl 1 rfl) ?_
                    refine lv_if_ne (tgt := 290) hx hb dX12_asks_283 (by decide) (fun c_138 => ?_) (fun c_138 => ?_)
                    · skip
                      rw [← Int32.toInt_inj, ti_0] at c_138
                      refine lv_iconst (v := 0) hx hb dX12_asks_290 (by decide) ?_
                      exact W.zret (v := 0) (ty := .boolean) hx hb hr rfl (fun t ht hW => ⟨⟨0, f_110, rfl, ⟨hG, (by decide), hfr0, (fun b9 g9 h1 h2 => by rw [hfo_111] at h1; obtain rfl := Option.some.inj h1; rw [hfo_112] at h2; cases h2; intro j hj; have h8 := has0 j hj; omega)⟩, by rw [ht]; exact hP, va_K.moved hW.alike hK, pl_in hD⟩, hS.F ht⟩) hS.2.2 dX12_asks_291
                    · skip
                      rw [← Int32.toInt_inj, ti_0] at c_138
                      refine lv_iconst (v := 1) hx hb dX12_asks_286 (by decide) ?_
                      refine lv_goto (tgt := 291) hx hb dX12_asks_287 (by decide) ?_
                      exact W.zret (v := 1) (ty := .boolean) hx hb hr rfl (fun t ht hW => ⟨⟨1, f_110, rfl, ⟨hG, (by decide), hfr0, (fun b9 g9 h1 h2 => by rw [hfo_111] at h1; obtain rfl := Option.some.inj h1; rw [hfo_112] at h2; cases h2; intro j hj; have h8 := has0 j hj; omega)⟩, by rw [ht]; exact hP, va_K.moved hW.alike hK, pl_in hD⟩, hS.F ht⟩) hS.2.2 dX12_asks_291
                · skip
                  rw [Int32.le_iff_toInt_le, ti_3] at c_113
                  refine lv_iconst (v := 3) hx hb dX12_asks_141 (by decide) ?_
                  refine lv_iload_n hx hb dX12_asks_142 rfl (lv_at hl 9 rfl) ?_
                  refine lv_imul hx hb dX12_asks_143 ?_
                  refine lv_topi (fun x_139 ex_139 => ?_)
                  have hx_139 : x_139.toInt = 3 * p1.toInt := by rw [ex_139, ml_I (by rw [ti_3]; omega) (by rw [ti_3]; omega), ti_3]
                  have bx_139 : (0 ≤ x_139.toInt ∧ x_139.toInt ≤ 21) := by constructor <;> omega
                  refine lv_iload hx hb dX12_asks_144 (lv_at hl 0 rfl) ?_
                  refine lv_iadd hx hb dX12_asks_146 ?_
                  refine lv_topi (fun x_140 ex_140 => ?_)
                  have hx_140 : x_140.toInt = x_139.toInt + y_106.toInt := by rw [ex_140, ad_I (by omega) (by omega)]
                  have bx_140 : (0 ≤ x_140.toInt ∧ x_140.toInt ≤ 23) := by constructor <;> omega
                  refine lv_istore (lv' := [(12, .int x_140), (11, .int y_106), (10, .int y_107), (9, .int y_108), (8, .int x_80), (7, .int y_76), (6, .int y_74), (5, .int x_71), (4, .int y_69), (0, .ref o0), (1, .int p1), (2, .int p2), (3, .int p3)]) hx hb dX12_asks_147 hl (by decide) rfl (fun ls hl => ?_)
                  refine lv_iload hx hb dX12_asks_149 (lv_at hl 1 rfl) ?_
                  refine lv_aload_n hx hb dX12_asks_151 rfl (lv_at hl 9 rfl) ?_
                  refine lv_iload_n hx hb dX12_asks_152 rfl (lv_at hl 10 rfl) ?_
                  refine lv_iconst (v := 3) hx hb dX12_asks_153 (by decide) ?_
                  refine tk_ViP (As := [.int p1, .int 3]) (rest := [.int y_106]) (n := 2) hx hb hml hown hU hN hZ (s_X12_ofRule_k12_c3_3 l (dC, dI) cI cL cZ cR cG cH Z kd L f_110 hG o0 mo0 ko0 p1 (by constructor <;> omega)) wd_894 wd_895 wd_896 wd_5 wd_897 (by decide +kernel) ⟨Nat.le_of_ble_eq_true rfl, Nat.le_of_ble_eq_true rfl⟩ hK hP hD hS mo0 hfo_111 12 rfl rfl rfl hl.1 rfl (Nat.le_of_ble_eq_true rfl) dX12_asks_154 ⟨Nat.le_of_ble_eq_true rfl, Nat.le_of_ble_eq_true rfl⟩ (fun x_141 f_142 H locs hw hP hD hS => ?_)
                  obtain ⟨rfl, bx_141⟩ := hw
                  have hcut_146 : ∀ (y_144 : Int32), (0 ≤ y_144.toInt ∧ y_144.toInt ≤ 63) → ∀ (H : Heap) (locs : List Loc), va_P (dC, dI) vwCl (va_pl L f_110) H → va_S (fun q => q ∈ L) s.heap H locs → ∀ (ls : Array Slot), lv_has ls 14 [(12, .int x_140), (11, .int y_106), (10, .int y_107), (9, .int y_108), (8, .int x_80), (7, .int y_76), (6, .int y_74), (5, .int x_71), (4, .int y_69), (0, .ref o0), (1, .int p1), (2, .int p2), (3, .int p3)] → W p l e (headSpec (wU yX12_asks cX12_asks 14 (some .boolean)) { frames := 3, cells := 0, slots := 0, locals := 67 }).room s m [.ref o0, .int p1, .int p2, .int p3].toArray below meth c H locs 0 0 (MQ below (va_Qi (fun (r : Int32) (f9 : Nat → va_E) => GI (okc cI cL cZ cR cG cH L kd) kd L f9 ∧ (0 ≤ r.toInt ∧ r.toInt ≤ 1) ∧ (∀ b, kd b ≠ 581 → kd b ≠ 583 → kd b ≠ 585 → kd b ≠ 587 → f9 b = f b) ∧ (∀ b9 g9, fldR (f9 o0) 19 = some b9 → f9 b9 = .inl (cI, 20, .inl g9) → ∀ j : Nat, (j : Int) = p2.toInt + 1 → (g9 j).toInt ≤ 8 * p2.toInt + p1.toInt + 1)) (qP (dC, dI) cI cL cZ cR cG cH L) (fun q => q ∈ L)) [.ref o0, .int p1, .int p2, .int p3].toArray s 0 0 (fun q => q ∈ L)) (F0 m 191 ls [.int y_144]) := by
                    intro y_144 by_144 H locs hP hS ls hl
                    refine lv_istore (lv' := [(13, .int y_144), (12, .int x_140), (11, .int y_106), (10, .int y_107), (9, .int y_108), (8, .int x_80), (7, .int y_76), (6, .int y_74), (5, .int x_71), (4, .int y_69), (0, .ref o0), (1, .int p1), (2, .int p2), (3, .int p3)]) hx hb dX12_asks_191 hl (by decide) rfl (fun ls hl => ?_)
                    refine lv_iload hx hb dX12_asks_193 (lv_at hl 7 rfl) ?_
                    refine lv_if_eq (tgt := 219) hx hb dX12_asks_195 (by decide) (fun c_147 => ?_) (fun c_147 => ?_)
                    · skip
                      rw [← Int32.toInt_inj, ti_0] at c_147
                      exfalso
                      omega
                    · skip
                      rw [← Int32.toInt_inj, ti_0] at c_147
                      refine lv_aload_n hx hb dX12_asks_198 rfl (lv_at hl 10 rfl) ?_
                      refine tk_getP (D := (dC, dI)) (ci := 12) (v := .ref a_20) (C := RX12) (T := TX12) (N := 56) hx hb hU inlX12 hown hK hP mo0 hfo_111 rfl 18 (by decide) (hU _ wd_178) (fun _ h9 => h9) rfl dX12_asks_199 ?_
                      refine lv_iload_n hx hb dX12_asks_202 rfl (lv_at hl 12 rfl) ?_
                      refine lv_iconst (v := 1) hx hb dX12_asks_203 (by decide) ?_
                      refine lv_iadd hx hb dX12_asks_204 ?_
                      refine lv_topi (fun x_148 ex_148 => ?_)
                      have hx_148 : x_148.toInt = p2.toInt + 1 := by rw [ex_148, ad_I (by rw [ti_1]; omega) (by rw [ti_1]; omega), ti_1]
                      have bx_148 : (1 ≤ x_148.toInt ∧ x_148.toInt ≤ 14) := by constructor <;> omega
                      obtain ⟨g_150, hfo_149, hbg_150⟩ := un_586 (hG _ ma_20) ka_20
                      obtain ⟨a_151, hga_151, ma_151, ka_151⟩ := hbg_150 (Int32.toNatClampNeg x_148) (in_lt (vp_in_iff.mpr (by constructor <;> omega)))
                      refine tk_aldA hx hb hK hP 4 ma_20 hfo_149 rfl (vp_in_iff.mpr (by constructor <;> omega)) hga_151 dX12_asks_205 ?_
                      refine lv_iconst (v := 3) hx hb dX12_asks_206 (by decide) ?_
                      refine lv_iload hx hb dX12_asks_207 (lv_at hl 5 rfl) ?_
                      refine lv_imul hx hb dX12_asks_209 ?_
                      refine lv_topi (fun x_152 ex_152 => ?_)
                      have hx_152 : x_152.toInt = 3 * x_80.toInt := by rw [ex_152, ml_I (by rw [ti_3]; omega) (by rw [ti_3]; omega), ti_3]
                      have bx_152 : (0 ≤ x_152.toInt ∧ x_152.toInt ≤ 333) := by constructor <;> omega
                      refine lv_iload hx hb dX12_asks_210 (lv_at hl 2 rfl) ?_
                      refine lv_iadd hx hb dX12_asks_212 ?_
                      refine lv_topi (fun x_153 ex_153 => ?_)
                      have hx_153 : x_153.toInt = x_152.toInt + y_106.toInt := by rw [ex_153, ad_I (by omega) (by omega)]
                      have bx_153 : (0 ≤ x_153.toInt ∧ x_153.toInt ≤ 335) := by constructor <;> omega
                      refine lv_iload hx hb dX12_asks_213 (lv_at hl 0 rfl) ?_
                      obtain ⟨g_155, hfo_154, hbg_155⟩ := un_585 (hG _ ma_151) ka_151
                      refine tk_istP hx hb hK hP hD hS 0 ma_151 hfo_154 rfl (vp_in_iff.mpr (by constructor <;> omega)) dX12_asks_215 (fun H locs hP hD hS => ?_)
                      obtain ⟨f_157, ef_157⟩ : ∃ y : Nat → va_E, y = va_up f_110 a_151 (.inl (cI, 480, .inl (upd g_155 (Int32.toNatClampNeg x_153) y_144))) := ⟨_, rfl⟩
                      have hP : va_P (dC, dI) vwCl (va_pl L f_157) H := by rw [ef_157]; exact hP
                      have hD : va_D (fun q => q ∈ L) (va_pl L f_157) := by rw [ef_157]; exact hD
                      have hG : GI (okc cI cL cZ cR cG cH L kd) kd L f_157 := by rw [ef_157]; exact hG.set a_151 (mk_585 ka_151 ⟨_, rfl, okI_up hbg_155 ⟨i32_lo _, i32_hi _⟩ _⟩)
                      have hfo_158 : f_157 o0 = .inr (12, [.ref a_2, .ref a_3, .ref a_4, .int v_5, .ref a_6, .int v_7, .int v_8, .int v_9, .int v_10, .int v_11, .int v_12, .int v_13, .int v_14, .int v_15, .int v_16, .ref a_17, .ref a_18, .ref a_19, .ref a_20, .ref a_21, .ref a_22, .ref a_23, .ref a_24, .int v_25, .int v_26, .int v_27, .int v_28, .int v_29, .ref a_30, .int v_31, .ref a_32, .ref a_33, .int v_34, .int v_35, .ref a_36, .int v_37, .ref a_38, .ref a_39, .int v_40, .int v_41, .ref a_42, .ref a_43, .ref a_44, .int v_45, .ref a_46, .ref a_47, .ref a_48, .ref a_49, .ref a_50, .ref a_51, .ref a_52, .ref a_53, .ref a_54, .int v_55, .int v_56, .ref a_57]) := by rw [ef_157, up_ne (kd_ne ka_151 ko0 (by decide))]; exact hfo_111
                      have hfo_159 : f_157 a_21 = .inl (cI, 20, .inl g_59) := by rw [ef_157, up_ne (kd_ne ka_151 ka_21 (by decide))]; exact hfo_112
                      have hfo_160 : f_157 a_20 = .inl (cG, 20, .inr (.inr (.inr (.inr g_150)))) := by rw [ef_157, up_ne (kd_ne ka_151 ka_20 (by decide))]; exact hfo_149
                      have hfr0 : ∀ b, kd b ≠ 581 → kd b ≠ 583 → kd b ≠ 585 → kd b ≠ 587 → f_157 b = f b := fun b q581 q583 q585 q587 => (congrFun ef_157 b).trans ((up_ne (fun e9 => q585 (by rw [e9]; exact ka_151))).trans (hfr0 b q581 q583 q585 q587))
                      have hfo_161 : f_157 a_151 = .inl (cI, 480, .inl (upd g_155 (Int32.toNatClampNeg x_153) y_144)) := by rw [ef_157]; exact up_self
                      refine lv_goto (tgt := 235) hx hb dX12_asks_216 (by decide) ?_
                      refine lv_iload hx hb dX12_asks_235 (lv_at hl 4 rfl) ?_
                      refine lv_iload hx hb dX12_asks_237 (lv_at hl 0 rfl) ?_
                      refine lv_ior hx hb dX12_asks_239 ?_
                      refine lv_topi (fun x_162 ex_162 => ?_)
                      have bx_162 : ((-2147483648) ≤ x_162.toInt ∧ x_162.toInt ≤ 2147483647) := ⟨i32_lo _, i32_hi _⟩
                      refine lv_istore (lv' := [(9, .int x_162), (13, .int y_144), (12, .int x_140), (11, .int y_106), (10, .int y_107), (8, .int x_80), (7, .int y_76), (6, .int y_74), (5, .int x_71), (4, .int y_69), (0, .ref o0), (1, .int p1), (2, .int p2), (3, .int p3)]) hx hb dX12_asks_240 hl (by decide) rfl (fun ls hl => ?_)
                      refine lv_iload hx hb dX12_asks_242 (lv_at hl 4 rfl) ?_
                      have hcut_165 : ∀ (y_163 : Int32), (0 ≤ y_163.toInt ∧ y_163.toInt ≤ 1) → ∀ (H : Heap) (locs : List Loc), va_P (dC, dI) vwCl (va_pl L f_157) H → va_S (fun q => q ∈ L) s.heap H locs → ∀ (ls : Array Slot), lv_has ls 14 [(9, .int x_162), (13, .int y_144), (12, .int x_140), (11, .int y_106), (10, .int y_107), (8, .int x_80), (7, .int y_76), (6, .int y_74), (5, .int x_71), (4, .int y_69), (0, .ref o0), (1, .int p1), (2, .int p2), (3, .int p3)] → W p l e (headSpec (wU yX12_asks cX12_asks 14 (some .boolean)) { frames := 3, cells := 0, slots := 0, locals := 67 }).room s m [.ref o0, .int p1, .int p2, .int p3].toArray below meth c H locs 0 0 (MQ below (va_Qi (fun (r : Int32) (f9 : Nat → va_E) => GI (okc cI cL cZ cR cG cH L kd) kd L f9 ∧ (0 ≤ r.toInt ∧ r.toInt ≤ 1) ∧ (∀ b, kd b ≠ 581 → kd b ≠ 583 → kd b ≠ 585 → kd b ≠ 587 → f9 b = f b) ∧ (∀ b9 g9, fldR (f9 o0) 19 = some b9 → f9 b9 = .inl (cI, 20, .inl g9) → ∀ j : Nat, (j : Int) = p2.toInt + 1 → (g9 j).toInt ≤ 8 * p2.toInt + p1.toInt + 1)) (qP (dC, dI) cI cL cZ cR cG cH L) (fun q => q ∈ L)) [.ref o0, .int p1, .int p2, .int p3].toArray s 0 0 (fun q => q ∈ L)) (F0 m 268 ls [.int y_163]) := by
                        intro y_163 by_163 H locs hP hS ls hl
                        refine lv_istore (lv' := [(10, .int y_163), (9, .int x_162), (13, .int y_144), (12, .int x_140), (11, .int y_106), (8, .int x_80), (7, .int y_76), (6, .int y_74), (5, .int x_71), (4, .int y_69), (0, .ref o0), (1, .int p1), (2, .int p2), (3, .int p3)]) hx hb dX12_asks_268 hl (by decide) rfl (fun ls hl => ?_)
                        obtain ⟨x_166, ex_166⟩ : ∃ y : Int32, y_106 + 1 = y := ⟨_, rfl⟩
                        have hx_166 : x_166.toInt = y_106.toInt + 1 := by rw [← ex_166, ad_I (by rw [ti_1]; omega) (by rw [ti_1]; omega), ti_1]
                        have bx_166 : (1 ≤ x_166.toInt ∧ x_166.toInt ≤ 3) := by constructor <;> omega
                        refine lv_iinc (v := x_166) (lv' := [(11, .int x_166), (10, .int y_163), (9, .int x_162), (13, .int y_144), (12, .int x_140), (8, .int x_80), (7, .int y_76), (6, .int y_74), (5, .int x_71), (4, .int y_69), (0, .ref o0), (1, .int p1), (2, .int p2), (3, .int p3)]) hx hb dX12_asks_270 hl (k := 4) rfl ex_166 (by decide) rfl (fun ls hl => ?_)
                        refine lv_goto (tgt := 135) hx hb dX12_asks_273 (by decide) ?_
                        exact ih_hloop_105 x_166 (by constructor <;> omega) y_163 (by constructor <;> omega) x_162 (by constructor <;> omega) f_157 hG _ _ hP hS hD hfr0 hfo_158 hfo_159 (by omega) ls (lv_sub hl [0, 1, 2, 5, 6, 7, 8, 9, 10, 11, 12, 13] rfl)
                      refine lv_if_ne (tgt := 263) hx hb dX12_asks_244 (by decide) (fun c_167 => ?_) (fun c_167 => ?_)
                      · skip
                        rw [← Int32.toInt_inj, ti_0] at c_167
                        refine lv_iconst (v := 1) hx hb dX12_asks_263 (by decide) ?_
                        refine lv_goto (tgt := 268) hx hb dX12_asks_264 (by decide) ?_
                        exact hcut_165 1 (by decide) _ _ hP hS ls (lv_sub hl [0, 1, 2, 3, 4, 5, 6, 7, 8, 9, 10, 11, 12, 13] rfl)
                      · skip
                        rw [← Int32.toInt_inj, ti_0] at c_167
                        refine lv_iload hx hb dX12_asks_247 (lv_at hl 1 rfl) ?_
                        refine lv_if_eq (tgt := 267) hx hb dX12_asks_249 (by decide) (fun c_168 => ?_) (fun c_168 => ?_)
                        · skip
                          rw [← Int32.toInt_inj, ti_0] at c_168
                          refine lv_iconst (v := 0) hx hb dX12_asks_267 (by decide) ?_
                          exact hcut_165 0 (by decide) _ _ hP hS ls (lv_sub hl [0, 1, 2, 3, 4, 5, 6, 7, 8, 9, 10, 11, 12, 13] rfl)
                        · skip
                          rw [← Int32.toInt_inj, ti_0] at c_168
                          refine lv_aload_n hx hb dX12_asks_252 rfl (lv_at hl 10 rfl) ?_
                          refine lv_iload hx hb dX12_asks_253 (lv_at hl 2 rfl) ?_
                          refine lv_iload hx hb dX12_asks_255 (lv_at hl 1 rfl) ?_
                          refine tk_ViP (As := [.int x_140, .int y_144]) (rest := []) (n := 2) hx hb hml hown hU hN hZ (s_X12_isMet_k12 l (dC, dI) cI cL cZ cR cG cH Z kd L f_157 hG o0 mo0 ko0 x_140 (by constructor <;> omega) y_144) wd_954 wd_955 wd_956 wd_5 wd_957 (by decide +kernel) ⟨Nat.le_of_ble_eq_true rfl, Nat.le_of_ble_eq_true rfl⟩ hK hP hD hS mo0 hfo_158 12 rfl rfl rfl hl.1 rfl (Nat.le_of_ble_eq_true rfl) dX12_asks_257 ⟨Nat.le_of_ble_eq_true rfl, Nat.le_of_ble_eq_true rfl⟩ (fun x_169 f_170 H locs hw hP hD hS => ?_)
                          obtain ⟨rfl, bx_169⟩ := hw
                          refine lv_if_eq (tgt := 267) hx hb dX12_asks_260 (by decide) (fun c_172 => ?_) (fun c_172 => ?_)
                          · skip
                            rw [← Int32.toInt_inj, ti_0] at c_172
                            refine lv_iconst (v := 0) hx hb dX12_asks_267 (by decide) ?_
                            exact hcut_165 0 (by decide) _ _ hP hS ls (lv_sub hl [0, 1, 2, 3, 4, 5, 6, 7, 8, 9, 10, 11, 12, 13] rfl)
                          · skip
                            rw [← Int32.toInt_inj, ti_0] at c_172
                            refine lv_iconst (v := 1) hx hb dX12_asks_263 (by decide) ?_
                            refine lv_goto (tgt := 268) hx hb dX12_asks_264 (by decide) ?_
                            exact hcut_165 1 (by decide) _ _ hP hS ls (lv_sub hl [0, 1, 2, 3, 4, 5, 6, 7, 8, 9, 10, 11, 12, 13] rfl)
                  refine lv_icmp_ge (tgt := 190) hx hb dX12_asks_157 (by decide) (fun c_173 => ?_) (fun c_173 => ?_)
                  · skip
                    rw [Int32.le_iff_toInt_le] at c_173
                    refine lv_iconst (v := 0) hx hb dX12_asks_190 (by decide) ?_
                    exact hcut_146 0 (by decide) _ _ hP hS ls (lv_sub hl [0, 1, 2, 3, 4, 5, 6, 7, 8, 9, 10, 11, 12] rfl)
                  · skip
                    rw [Int32.le_iff_toInt_le] at c_173
                    refine lv_aload_n hx hb dX12_asks_160 rfl (lv_at hl 9 rfl) ?_
                    refine lv_iload hx hb dX12_asks_161 (lv_at hl 0 rfl) ?_
                    refine lv_iconst (v := 0) hx hb dX12_asks_163 (by decide) ?_
                    refine lv_aload_n hx hb dX12_asks_164 rfl (lv_at hl 9 rfl) ?_
                    refine tk_getP (D := (dC, dI)) (ci := 12) (v := .ref a_17) (C := RX12) (T := TX12) (N := 56) hx hb hU inlX12 hown hK hP mo0 hfo_111 rfl 15 (by decide) (hU _ wd_175) (fun _ h9 => h9) rfl dX12_asks_165 ?_
                    refine lv_iload_n hx hb dX12_asks_168 rfl (lv_at hl 11 rfl) ?_
                    obtain ⟨g_175, hfo_174, hbg_175⟩ := un_580 (hG _ ma_17) ka_17
                    obtain ⟨a_176, hga_176, ma_176, ka_176⟩ := hbg_175 (Int32.toNatClampNeg p2) (in_lt (vp_in_iff.mpr (by constructor <;> omega)))
                    refine tk_aldA hx hb hK hP 4 ma_17 hfo_174 rfl (vp_in_iff.mpr (by constructor <;> omega)) hga_176 dX12_asks_169 ?_
                    refine lv_iload hx hb dX12_asks_170 (lv_at hl 0 rfl) ?_
                    obtain ⟨g_178, hfo_177, hbg_178⟩ := un_579 (hG _ ma_176) ka_176
                    refine tk_ildP hx hb hK hP 0 ma_176 hfo_177 rfl (vp_in_iff.mpr (by constructor <;> omega)) dX12_asks_172 ?_
                    refine lv_topi (fun x_179 ex_179 => ?_)
                    have bx_179 : ((-2147483648) ≤ x_179.toInt ∧ x_179.toInt ≤ 2147483647) := ⟨i32_lo _, i32_hi _⟩
                    refine tk_ViP (As := [.int x_140, .int 0, .int x_179]) (rest := []) (n := 3) hx hb hml hown hU hN hZ (s_X12_isDone_k12 l (dC, dI) cI cL cZ cR cG cH Z kd L f_110 hG o0 mo0 ko0 x_140 (by constructor <;> omega) 0 (by decide) x_179) wd_898 wd_899 wd_900 wd_5 wd_901 (by decide +kernel) ⟨Nat.le_of_ble_eq_true rfl, Nat.le_of_ble_eq_true rfl⟩ hK hP hD hS mo0 hfo_111 12 rfl rfl rfl hl.1 rfl (Nat.le_of_ble_eq_true rfl) dX12_asks_173 ⟨Nat.le_of_ble_eq_true rfl, Nat.le_of_ble_eq_true rfl⟩ (fun x_180 f_181 H locs hw hP hD hS => ?_)
                    obtain ⟨rfl, bx_180⟩ := hw
                    refine lv_if_eq (tgt := 190) hx hb dX12_asks_176 (by decide) (fun c_183 => ?_) (fun c_183 => ?_)
                    · skip
                      rw [← Int32.toInt_inj, ti_0] at c_183
                      refine lv_iconst (v := 0) hx hb dX12_asks_190 (by decide) ?_
                      exact hcut_146 0 (by decide) _ _ hP hS ls (lv_sub hl [0, 1, 2, 3, 4, 5, 6, 7, 8, 9, 10, 11, 12] rfl)
                    · skip
                      rw [← Int32.toInt_inj, ti_0] at c_183
                      refine lv_aload_n hx hb dX12_asks_179 rfl (lv_at hl 9 rfl) ?_
                      refine lv_iload hx hb dX12_asks_180 (lv_at hl 0 rfl) ?_
                      refine lv_iconst (v := 1) hx hb dX12_asks_182 (by decide) ?_
                      refine lv_iconst (v := 1) hx hb dX12_asks_183 (by decide) ?_
                      refine tk_ViP (As := [.int x_140, .int 1, .int 1]) (rest := []) (n := 3) hx hb hml hown hU hN hZ (s_X12_closed_k12 l (dC, dI) cI cL cZ cR cG cH Z kd L f_110 hG o0 mo0 ko0 x_140 (by constructor <;> omega) 1 (by decide) 1 (by decide)) wd_878 wd_879 wd_880 wd_5 wd_881 (by decide +kernel) ⟨Nat.le_of_ble_eq_true rfl, Nat.le_of_ble_eq_true rfl⟩ hK hP hD hS mo0 hfo_111 12 rfl rfl rfl hl.1 rfl (Nat.le_of_ble_eq_true rfl) dX12_asks_184 ⟨Nat.le_of_ble_eq_true rfl, Nat.le_of_ble_eq_true rfl⟩ (fun x_184 f_185 H locs hw hP hD hS => ?_)
                      obtain ⟨rfl, bx_184⟩ := hw
                      refine lv_goto (tgt := 191) hx hb dX12_asks_187 (by decide) ?_
                      exact hcut_146 x_184 (by constructor <;> omega) _ _ hP hS ls (lv_sub hl [0, 1, 2, 3, 4, 5, 6, 7, 8, 9, 10, 11, 12] rfl)
            exact hloop_105 4 0 (by decide) 0 (by decide) 0 (by decide) f hG _ _ hP hS hD hfr0 hfo_1 hfo_58 (by (try rw [ti_0]) <;> omega) ls hl
          · skip
            rw [← Int32.toInt_inj, ti_0] at c_78
            refine lv_iload hx hb dX12_asks_109 (lv_at hl 0 rfl) ?_
            refine lv_if_ne (tgt := 116) hx hb dX12_asks_111 (by decide) (fun c_187 => ?_) (fun c_187 => ?_)
            · skip
              rw [← Int32.toInt_inj, ti_0] at c_187
              refine lv_aload_n hx hb dX12_asks_116 rfl (lv_at hl 4 rfl) ?_
              refine tk_getP (D := (dC, dI)) (ci := 12) (v := .ref a_21) (C := RX12) (T := TX12) (N := 56) hx hb hU inlX12 hown hK hP mo0 hfo_1 rfl 19 (by decide) (hU _ wd_179) (fun _ h9 => h9) rfl dX12_asks_117 ?_
              refine lv_iload_n hx hb dX12_asks_120 rfl (lv_at hl 6 rfl) ?_
              refine lv_iconst (v := 1) hx hb dX12_asks_121 (by decide) ?_
              refine lv_iadd hx hb dX12_asks_122 ?_
              refine lv_topi (fun x_188 ex_188 => ?_)
              have hx_188 : x_188.toInt = p2.toInt + 1 := by rw [ex_188, ad_I (by rw [ti_1]; omega) (by rw [ti_1]; omega), ti_1]
              have bx_188 : (1 ≤ x_188.toInt ∧ x_188.toInt ≤ 14) := by constructor <;> omega
              refine tk_ildP hx hb hK hP 0 ma_21 hfo_58 rfl (vp_in_iff.mpr (by constructor <;> omega)) dX12_asks_123 ?_
              refine lv_topi (fun x_189 ex_189 => ?_)
              have hx_189 : 0 ≤ x_189.toInt ∧ x_189.toInt ≤ 8 * x_188.toInt := by have hc9 := cl_I (i := x_188) (by omega); have h8 := hbg_59 (Int32.toNatClampNeg x_188); rw [ex_189]; constructor <;> omega
              have bx_189 : (0 ≤ x_189.toInt ∧ x_189.toInt ≤ 112) := by constructor <;> omega
              have has1 : x_189.toInt ≤ 8 * p2.toInt + p1.toInt := by have hc9 := cl_I (i := x_188) (by omega); rw [ex_189]; exact has0 _ (by omega)
              refine lv_istore (lv' := [(8, .int x_189), (7, .int y_76), (6, .int y_74), (5, .int x_71), (4, .int y_69), (0, .ref o0), (1, .int p1), (2, .int p2), (3, .int p3)]) hx hb dX12_asks_124 hl (by decide) rfl (fun ls hl => ?_)
              refine lv_iconst (v := 0) hx hb dX12_asks_126 (by decide) ?_
              refine lv_istore (lv' := [(9, .int 0), (8, .int x_189), (7, .int y_76), (6, .int y_74), (5, .int x_71), (4, .int y_69), (0, .ref o0), (1, .int p1), (2, .int p2), (3, .int p3)]) hx hb dX12_asks_127 hl (by decide) rfl (fun ls hl => ?_)
              refine lv_iconst (v := 0) hx hb dX12_asks_129 (by decide) ?_
              refine lv_istore (lv' := [(10, .int 0), (9, .int 0), (8, .int x_189), (7, .int y_76), (6, .int y_74), (5, .int x_71), (4, .int y_69), (0, .ref o0), (1, .int p1), (2, .int p2), (3, .int p3)]) hx hb dX12_asks_130 hl (by decide) rfl (fun ls hl => ?_)
              refine lv_iconst (v := 0) hx hb dX12_asks_132 (by decide) ?_
              refine lv_istore (lv' := [(11, .int 0), (10, .int 0), (9, .int 0), (8, .int x_189), (7, .int y_76), (6, .int y_74), (5, .int x_71), (4, .int y_69), (0, .ref o0), (1, .int p1), (2, .int p2), (3, .int p3)]) hx hb dX12_asks_133 hl (by decide) rfl (fun ls hl => ?_)
              have hloop_214 : ∀ (n : Nat), ∀ (y_215 : Int32), (0 ≤ y_215.toInt ∧ y_215.toInt ≤ 3) → ∀ (y_216 : Int32), (0 ≤ y_216.toInt ∧ y_216.toInt ≤ 1) → ∀ (y_217 : Int32), ((-2147483648) ≤ y_217.toInt ∧ y_217.toInt ≤ 2147483647) → ∀ (f_219 : Nat → va_E), GI (okc cI cL cZ cR cG cH L kd) kd L f_219 → ∀ (H : Heap) (locs : List Loc), va_P (dC, dI) vwCl (va_pl L f_219) H → va_S (fun q => q ∈ L) s.heap H locs → va_D (fun q => q ∈ L) (va_pl L f_219) → (∀ b, kd b ≠ 581 → kd b ≠ 583 → kd b ≠ 585 → kd b ≠ 587 → f_219 b = f b) → (f_219 o0 = .inr (12, [.ref a_2, .ref a_3, .ref a_4, .int v_5, .ref a_6, .int v_7, .int v_8, .int v_9, .int v_10, .int v_11, .int v_12, .int v_13, .int v_14, .int v_15, .int v_16, .ref a_17, .ref a_18, .ref a_19, .ref a_20, .ref a_21, .ref a_22, .ref a_23, .ref a_24, .int v_25, .int v_26, .int v_27, .int v_28, .int v_29, .ref a_30, .int v_31, .ref a_32, .ref a_33, .int v_34, .int v_35, .ref a_36, .int v_37, .ref a_38, .ref a_39, .int v_40, .int v_41, .ref a_42, .ref a_43, .ref a_44, .int v_45, .ref a_46, .ref a_47, .ref a_48, .ref a_49, .ref a_50, .ref a_51, .ref a_52, .ref a_53, .ref a_54, .int v_55, .int v_56, .ref a_57])) → (f_219 a_21 = .inl (cI, 20, .inl g_59)) → 3 - y_215.toInt < (n : Int) → ∀ (ls : Array Slot), lv_has ls 14 [(11, .int y_215), (10, .int y_216), (9, .int y_217), (8, .int x_189), (7, .int y_76), (6, .int y_74), (5, .int x_71), (4, .int y_69), (0, .ref o0), (1, .int p1), (2, .int p2), (3, .int p3)] → W p l e (headSpec (wU yX12_asks cX12_asks 14 (some .boolean)) { frames := 3, cells := 0, slots := 0, locals := 67 }).room s m [.ref o0, .int p1, .int p2, .int p3].toArray below meth c H locs 0 0 (MQ below (va_Qi (fun (r : Int32) (f9 : Nat → va_E) => GI (okc cI cL cZ cR cG cH L kd) kd L f9 ∧ (0 ≤ r.toInt ∧ r.toInt ≤ 1) ∧ (∀ b, kd b ≠ 581 → kd b ≠ 583 → kd b ≠ 585 → kd b ≠ 587 → f9 b = f b) ∧ (∀ b9 g9, fldR (f9 o0) 19 = some b9 → f9 b9 = .inl (cI, 20, .inl g9) → ∀ j : Nat, (j : Int) = p2.toInt + 1 → (g9 j).toInt ≤ 8 * p2.toInt + p1.toInt + 1)) (qP (dC, dI) cI cL cZ cR cG cH L) (fun q => q ∈ L)) [.ref o0, .int p1, .int p2, .int p3].toArray s 0 0 (fun q => q ∈ L)) (F0 m 135 ls []) := by
                intro n
                induction n with
                | zero => intro y_215 by_215 y_216 by_216 y_217 by_217 f_219 hG H locs hP hS hD hfr0 hfo_220 hfo_221 hmuhloop_214 ls hl; exfalso; omega
                | succ n ih_hloop_214 =>
                  intro y_215 by_215 y_216 by_216 y_217 by_217 f_219 hG H locs hP hS hD hfr0 hfo_220 hfo_221 hmuhloop_214 ls hl
                  refine lv_iload hx hb dX12_asks_135 (lv_at hl 0 rfl) ?_
                  refine lv_iconst (v := 3) hx hb dX12_asks_137 (by decide) ?_
                  refine lv_icmp_ge (tgt := 276) hx hb dX12_asks_138 (by decide) (fun c_222 => ?_) (fun c_222 => ?_)
                  · skip
                    rw [Int32.le_iff_toInt_le, ti_3] at c_222
                    refine lv_iload hx hb dX12_asks_276 (lv_at hl 4 rfl) ?_
                    refine lv_if_eq (tgt := 292) hx hb dX12_asks_278 (by decide) (fun c_223 => ?_) (fun c_223 => ?_)
                    · skip
                      rw [← Int32.toInt_inj, ti_0] at c_223
                      exfalso
                      omega
                    · skip
                      rw [← Int32.toInt_inj, ti_0] at c_223
                      refine lv_iload hx hb dX12_asks_281 (lv_at hl 1 rfl) ?_
                      refine lv_if_ne (tgt := 290) hx hb dX12_asks_283 (by decide) (fun c_224 => ?_) (fun c_224 => ?_)
                      · skip
                        rw [← Int32.toInt_inj, ti_0] at c_224
                        refine lv_iconst (v := 0) hx hb dX12_asks_290 (by decide) ?_
                        exact W.zret (v := 0) (ty := .boolean) hx hb hr rfl (fun t ht hW => ⟨⟨0, f_219, rfl, ⟨hG, (by decide), hfr0, (fun b9 g9 h1 h2 => by rw [hfo_220] at h1; obtain rfl := Option.some.inj h1; rw [hfo_221] at h2; cases h2; intro j hj; have h8 := has0 j hj; omega)⟩, by rw [ht]; exact hP, va_K.moved hW.alike hK, pl_in hD⟩, hS.F ht⟩) hS.2.2 dX12_asks_291
                      · skip
                        rw [← Int32.toInt_inj, ti_0] at c_224
                        refine lv_iconst (v := 1) hx hb dX12_asks_286 (by decide) ?_
                        refine lv_goto (tgt := 291) hx hb dX12_asks_287 (by decide) ?_
                        exact W.zret (v := 1) (ty := .boolean) hx hb hr rfl (fun t ht hW => ⟨⟨1, f_219, rfl, ⟨hG, (by decide), hfr0, (fun b9 g9 h1 h2 => by rw [hfo_220] at h1; obtain rfl := Option.some.inj h1; rw [hfo_221] at h2; cases h2; intro j hj; have h8 := has0 j hj; omega)⟩, by rw [ht]; exact hP, va_K.moved hW.alike hK, pl_in hD⟩, hS.F ht⟩) hS.2.2 dX12_asks_291
                  · skip
                    rw [Int32.le_iff_toInt_le, ti_3] at c_222
                    refine lv_iconst (v := 3) hx hb dX12_asks_141 (by decide) ?_
                    refine lv_iload_n hx hb dX12_asks_142 rfl (lv_at hl 9 rfl) ?_
                    refine lv_imul hx hb dX12_asks_143 ?_
                    refine lv_topi (fun x_225 ex_225 => ?_)
                    have hx_225 : x_225.toInt = 3 * p1.toInt := by rw [ex_225, ml_I (by rw [ti_3]; omega) (by rw [ti_3]; omega), ti_3]
                    have bx_225 : (0 ≤ x_225.toInt ∧ x_225.toInt ≤ 21) := by constructor <;> omega
                    refine lv_iload hx hb dX12_asks_144 (lv_at hl 0 rfl) ?_
                    refine lv_iadd hx hb dX12_asks_146 ?_
                    refine lv_topi (fun x_226 ex_226 => ?_)
                    have hx_226 : x_226.toInt = x_225.toInt + y_215.toInt := by rw [ex_226, ad_I (by omega) (by omega)]
                    have bx_226 : (0 ≤ x_226.toInt ∧ x_226.toInt ≤ 23) := by constructor <;> omega
                    refine lv_istore (lv' := [(12, .int x_226), (11, .int y_215), (10, .int y_216), (9, .int y_217), (8, .int x_189), (7, .int y_76), (6, .int y_74), (5, .int x_71), (4, .int y_69), (0, .ref o0), (1, .int p1), (2, .int p2), (3, .int p3)]) hx hb dX12_asks_147 hl (by decide) rfl (fun ls hl => ?_)
                    refine lv_iload hx hb dX12_asks_149 (lv_at hl 1 rfl) ?_
                    refine lv_aload_n hx hb dX12_asks_151 rfl (lv_at hl 9 rfl) ?_
                    refine lv_iload_n hx hb dX12_asks_152 rfl (lv_at hl 10 rfl) ?_
                    refine lv_iconst (v := 3) hx hb dX12_asks_153 (by decide) ?_
                    refine tk_ViP (As := [.int p1, .int 3]) (rest := [.int y_215]) (n := 2) hx hb hml hown hU hN hZ (s_X12_ofRule_k12_c3_3 l (dC, dI) cI cL cZ cR cG cH Z kd L f_219 hG o0 mo0 ko0 p1 (by constructor <;> omega)) wd_894 wd_895 wd_896 wd_5 wd_897 (by decide +kernel) ⟨Nat.le_of_ble_eq_true rfl, Nat.le_of_ble_eq_true rfl⟩ hK hP hD hS mo0 hfo_220 12 rfl rfl rfl hl.1 rfl (Nat.le_of_ble_eq_true rfl) dX12_asks_154 ⟨Nat.le_of_ble_eq_true rfl, Nat.le_of_ble_eq_true rfl⟩ (fun x_227 f_228 H locs hw hP hD hS => ?_)
                    obtain ⟨rfl, bx_227⟩ := hw
                    have hcut_232 : ∀ (y_230 : Int32), (0 ≤ y_230.toInt ∧ y_230.toInt ≤ 63) → ∀ (H : Heap) (locs : List Loc), va_P (dC, dI) vwCl (va_pl L f_219) H → va_S (fun q => q ∈ L) s.heap H locs → ∀ (ls : Array Slot), lv_has ls 14 [(12, .int x_226), (11, .int y_215), (10, .int y_216), (9, .int y_217), (8, .int x_189), (7, .int y_76), (6, .int y_74), (5, .int x_71), (4, .int y_69), (0, .ref o0), (1, .int p1), (2, .int p2), (3, .int p3)] → W p l e (headSpec (wU yX12_asks cX12_asks 14 (some .boolean)) { frames := 3, cells := 0, slots := 0, locals := 67 }).room s m [.ref o0, .int p1, .int p2, .int p3].toArray below meth c H locs 0 0 (MQ below (va_Qi (fun (r : Int32) (f9 : Nat → va_E) => GI (okc cI cL cZ cR cG cH L kd) kd L f9 ∧ (0 ≤ r.toInt ∧ r.toInt ≤ 1) ∧ (∀ b, kd b ≠ 581 → kd b ≠ 583 → kd b ≠ 585 → kd b ≠ 587 → f9 b = f b) ∧ (∀ b9 g9, fldR (f9 o0) 19 = some b9 → f9 b9 = .inl (cI, 20, .inl g9) → ∀ j : Nat, (j : Int) = p2.toInt + 1 → (g9 j).toInt ≤ 8 * p2.toInt + p1.toInt + 1)) (qP (dC, dI) cI cL cZ cR cG cH L) (fun q => q ∈ L)) [.ref o0, .int p1, .int p2, .int p3].toArray s 0 0 (fun q => q ∈ L)) (F0 m 191 ls [.int y_230]) := by
                      intro y_230 by_230 H locs hP hS ls hl
                      refine lv_istore (lv' := [(13, .int y_230), (12, .int x_226), (11, .int y_215), (10, .int y_216), (9, .int y_217), (8, .int x_189), (7, .int y_76), (6, .int y_74), (5, .int x_71), (4, .int y_69), (0, .ref o0), (1, .int p1), (2, .int p2), (3, .int p3)]) hx hb dX12_asks_191 hl (by decide) rfl (fun ls hl => ?_)
                      refine lv_iload hx hb dX12_asks_193 (lv_at hl 7 rfl) ?_
                      refine lv_if_eq (tgt := 219) hx hb dX12_asks_195 (by decide) (fun c_233 => ?_) (fun c_233 => ?_)
                      · skip
                        rw [← Int32.toInt_inj, ti_0] at c_233
                        refine lv_aload_n hx hb dX12_asks_219 rfl (lv_at hl 10 rfl) ?_
                        refine tk_getP (D := (dC, dI)) (ci := 12) (v := .ref a_18) (C := RX12) (T := TX12) (N := 56) hx hb hU inlX12 hown hK hP mo0 hfo_220 rfl 16 (by decide) (hU _ wd_176) (fun _ h9 => h9) rfl dX12_asks_220 ?_
                        refine lv_iload_n hx hb dX12_asks_223 rfl (lv_at hl 12 rfl) ?_
                        refine lv_iconst (v := 1) hx hb dX12_asks_224 (by decide) ?_
                        refine lv_iadd hx hb dX12_asks_225 ?_
                        refine lv_topi (fun x_234 ex_234 => ?_)
                        have hx_234 : x_234.toInt = p2.toInt + 1 := by rw [ex_234, ad_I (by rw [ti_1]; omega) (by rw [ti_1]; omega), ti_1]
                        have bx_234 : (1 ≤ x_234.toInt ∧ x_234.toInt ≤ 14) := by constructor <;> omega
                        obtain ⟨g_236, hfo_235, hbg_236⟩ := un_582 (hG _ ma_18) ka_18
                        obtain ⟨a_237, hga_237, ma_237, ka_237⟩ := hbg_236 (Int32.toNatClampNeg x_234) (in_lt (vp_in_iff.mpr (by constructor <;> omega)))
                        refine tk_aldA hx hb hK hP 4 ma_18 hfo_235 rfl (vp_in_iff.mpr (by constructor <;> omega)) hga_237 dX12_asks_226 ?_
                        refine lv_iload hx hb dX12_asks_227 (lv_at hl 1 rfl) ?_
                        refine lv_dup2_11 hx hb dX12_asks_229 rfl rfl ?_
                        obtain ⟨g_239, hfo_238, hbg_239⟩ := un_581 (hG _ ma_237) ka_237
                        refine tk_ildP hx hb hK hP 0 ma_237 hfo_238 rfl (vp_in_iff.mpr (by constructor <;> omega)) dX12_asks_230 ?_
                        refine lv_topi (fun x_240 ex_240 => ?_)
                        have bx_240 : ((-2147483648) ≤ x_240.toInt ∧ x_240.toInt ≤ 2147483647) := ⟨i32_lo _, i32_hi _⟩
                        refine lv_iload hx hb dX12_asks_231 (lv_at hl 0 rfl) ?_
                        refine lv_ior hx hb dX12_asks_233 ?_
                        refine lv_topi (fun x_241 ex_241 => ?_)
                        have bx_241 : ((-2147483648) ≤ x_241.toInt ∧ x_241.toInt ≤ 2147483647) := ⟨i32_lo _, i32_hi _⟩
                        refine tk_istP hx hb hK hP hD hS 0 ma_237 hfo_238 rfl (vp_in_iff.mpr (by constructor <;> omega)) dX12_asks_234 (fun H locs hP hD hS => ?_)
                        obtain ⟨f_243, ef_243⟩ : ∃ y : Nat → va_E, y = va_up f_219 a_237 (.inl (cI, 24, .inl (upd g_239 (Int32.toNatClampNeg x_226) x_241))) := ⟨_, rfl⟩
                        have hP : va_P (dC, dI) vwCl (va_pl L f_243) H := by rw [ef_243]; exact hP
                        have hD : va_D (fun q => q ∈ L) (va_pl L f_243) := by rw [ef_243]; exact hD
                        have hG : GI (okc cI cL cZ cR cG cH L kd) kd L f_243 := by rw [ef_243]; exact hG.set a_237 (mk_581 ka_237 ⟨_, rfl, okI_up hbg_239 ⟨i32_lo _, i32_hi _⟩ _⟩)
                        have hfo_244 : f_243 o0 = .inr (12, [.ref a_2, .ref a_3, .ref a_4, .int v_5, .ref a_6, .int v_7, .int v_8, .int v_9, .int v_10, .int v_11, .int v_12, .int v_13, .int v_14, .int v_15, .int v_16, .ref a_17, .ref a_18, .ref a_19, .ref a_20, .ref a_21, .ref a_22, .ref a_23, .ref a_24, .int v_25, .int v_26, .int v_27, .int v_28, .int v_29, .ref a_30, .int v_31, .ref a_32, .ref a_33, .int v_34, .int v_35, .ref a_36, .int v_37, .ref a_38, .ref a_39, .int v_40, .int v_41, .ref a_42, .ref a_43, .ref a_44, .int v_45, .ref a_46, .ref a_47, .ref a_48, .ref a_49, .ref a_50, .ref a_51, .ref a_52, .ref a_53, .ref a_54, .int v_55, .int v_56, .ref a_57]) := by rw [ef_243, up_ne (kd_ne ka_237 ko0 (by decide))]; exact hfo_220
                        have hfo_245 : f_243 a_21 = .inl (cI, 20, .inl g_59) := by rw [ef_243, up_ne (kd_ne ka_237 ka_21 (by decide))]; exact hfo_221
                        have hfo_246 : f_243 a_18 = .inl (cG, 20, .inr (.inr (.inr (.inr g_236)))) := by rw [ef_243, up_ne (kd_ne ka_237 ka_18 (by decide))]; exact hfo_235
                        have hfr0 : ∀ b, kd b ≠ 581 → kd b ≠ 583 → kd b ≠ 585 → kd b ≠ 587 → f_243 b = f b := fun b q581 q583 q585 q587 => (congrFun ef_243 b).trans ((up_ne (fun e9 => q581 (by rw [e9]; exact ka_237))).trans (hfr0 b q581 q583 q585 q587))
                        have hfo_247 : f_243 a_237 = .inl (cI, 24, .inl (upd g_239 (Int32.toNatClampNeg x_226) x_241)) := by rw [ef_243]; exact up_self
                        refine lv_iload hx hb dX12_asks_235 (lv_at hl 4 rfl) ?_
                        refine lv_iload hx hb dX12_asks_237 (lv_at hl 0 rfl) ?_
                        refine lv_ior hx hb dX12_asks_239 ?_
                        refine lv_topi (fun x_248 ex_248 => ?_)
                        have bx_248 : ((-2147483648) ≤ x_248.toInt ∧ x_248.toInt ≤ 2147483647) := ⟨i32_lo _, i32_hi _⟩
                        refine lv_istore (lv' := [(9, .int x_248), (13, .int y_230), (12, .int x_226), (11, .int y_215), (10, .int y_216), (8, .int x_189), (7, .int y_76), (6, .int y_74), (5, .int x_71), (4, .int y_69), (0, .ref o0), (1, .int p1), (2, .int p2), (3, .int p3)]) hx hb dX12_asks_240 hl (by decide) rfl (fun ls hl => ?_)
                        refine lv_iload hx hb dX12_asks_242 (lv_at hl 4 rfl) ?_
                        have hcut_251 : ∀ (y_249 : Int32), (0 ≤ y_249.toInt ∧ y_249.toInt ≤ 1) → ∀ (H : Heap) (locs : List Loc), va_P (dC, dI) vwCl (va_pl L f_243) H → va_S (fun q => q ∈ L) s.heap H locs → ∀ (ls : Array Slot), lv_has ls 14 [(9, .int x_248), (13, .int y_230), (12, .int x_226), (11, .int y_215), (10, .int y_216), (8, .int x_189), (7, .int y_76), (6, .int y_74), (5, .int x_71), (4, .int y_69), (0, .ref o0), (1, .int p1), (2, .int p2), (3, .int p3)] → W p l e (headSpec (wU yX12_asks cX12_asks 14 (some .boolean)) { frames := 3, cells := 0, slots := 0, locals := 67 }).room s m [.ref o0, .int p1, .int p2, .int p3].toArray below meth c H locs 0 0 (MQ below (va_Qi (fun (r : Int32) (f9 : Nat → va_E) => GI (okc cI cL cZ cR cG cH L kd) kd L f9 ∧ (0 ≤ r.toInt ∧ r.toInt ≤ 1) ∧ (∀ b, kd b ≠ 581 → kd b ≠ 583 → kd b ≠ 585 → kd b ≠ 587 → f9 b = f b) ∧ (∀ b9 g9, fldR (f9 o0) 19 = some b9 → f9 b9 = .inl (cI, 20, .inl g9) → ∀ j : Nat, (j : Int) = p2.toInt + 1 → (g9 j).toInt ≤ 8 * p2.toInt + p1.toInt + 1)) (qP (dC, dI) cI cL cZ cR cG cH L) (fun q => q ∈ L)) [.ref o0, .int p1, .int p2, .int p3].toArray s 0 0 (fun q => q ∈ L)) (F0 m 268 ls [.int y_249]) := by
                          intro y_249 by_249 H locs hP hS ls hl
                          refine lv_istore (lv' := [(10, .int y_249), (9, .int x_248), (13, .int y_230), (12, .int x_226), (11, .int y_215), (8, .int x_189), (7, .int y_76), (6, .int y_74), (5, .int x_71), (4, .int y_69), (0, .ref o0), (1, .int p1), (2, .int p2), (3, .int p3)]) hx hb dX12_asks_268 hl (by decide) rfl (fun ls hl => ?_)
                          obtain ⟨x_252, ex_252⟩ : ∃ y : Int32, y_215 + 1 = y := ⟨_, rfl⟩
                          have hx_252 : x_252.toInt = y_215.toInt + 1 := by rw [← ex_252, ad_I (by rw [ti_1]; omega) (by rw [ti_1]; omega), ti_1]
                          have bx_252 : (1 ≤ x_252.toInt ∧ x_252.toInt ≤ 3) := by constructor <;> omega
                          refine lv_iinc (v := x_252) (lv' := [(11, .int x_252), (10, .int y_249), (9, .int x_248), (13, .int y_230), (12, .int x_226), (8, .int x_189), (7, .int y_76), (6, .int y_74), (5, .int x_71), (4, .int y_69), (0, .ref o0), (1, .int p1), (2, .int p2), (3, .int p3)]) hx hb dX12_asks_270 hl (k := 4) rfl ex_252 (by decide) rfl (fun ls hl => ?_)
                          refine lv_goto (tgt := 135) hx hb dX12_asks_273 (by decide) ?_
                          exact ih_hloop_214 x_252 (by constructor <;> omega) y_249 (by constructor <;> omega) x_248 (by constructor <;> omega) f_243 hG _ _ hP hS hD hfr0 hfo_244 hfo_245 (by omega) ls (lv_sub hl [0, 1, 2, 5, 6, 7, 8, 9, 10, 11, 12, 13] rfl)
                        refine lv_if_ne (tgt := 263) hx hb dX12_asks_244 (by decide) (fun c_253 => ?_) (fun c_253 => ?_)
                        · skip
                          rw [← Int32.toInt_inj, ti_0] at c_253
                          refine lv_iconst (v := 1) hx hb dX12_asks_263 (by decide) ?_
                          refine lv_goto (tgt := 268) hx hb dX12_asks_264 (by decide) ?_
                          exact hcut_251 1 (by decide) _ _ hP hS ls (lv_sub hl [0, 1, 2, 3, 4, 5, 6, 7, 8, 9, 10, 11, 12, 13] rfl)
                        · skip
                          rw [← Int32.toInt_inj, ti_0] at c_253
                          refine lv_iload hx hb dX12_asks_247 (lv_at hl 1 rfl) ?_
                          refine lv_if_eq (tgt := 267) hx hb dX12_asks_249 (by decide) (fun c_254 => ?_) (fun c_254 => ?_)
                          · skip
                            rw [← Int32.toInt_inj, ti_0] at c_254
                            refine lv_iconst (v := 0) hx hb dX12_asks_267 (by decide) ?_
                            exact hcut_251 0 (by decide) _ _ hP hS ls (lv_sub hl [0, 1, 2, 3, 4, 5, 6, 7, 8, 9, 10, 11, 12, 13] rfl)
                          · skip
                            rw [← Int32.toInt_inj, ti_0] at c_254
                            refine lv_aload_n hx hb dX12_asks_252 rfl (lv_at hl 10 rfl) ?_
                            refine lv_iload hx hb dX12_asks_253 (lv_at hl 2 rfl) ?_
                            refine lv_iload hx hb dX12_asks_255 (lv_at hl 1 rfl) ?_
                            refine tk_ViP (As := [.int x_226, .int y_230]) (rest := []) (n := 2) hx hb hml hown hU hN hZ (s_X12_isMet_k12 l (dC, dI) cI cL cZ cR cG cH Z kd L f_243 hG o0 mo0 ko0 x_226 (by constructor <;> omega) y_230) wd_954 wd_955 wd_956 wd_5 wd_957 (by decide +kernel) ⟨Nat.le_of_ble_eq_true rfl, Nat.le_of_ble_eq_true rfl⟩ hK hP hD hS mo0 hfo_244 12 rfl rfl rfl hl.1 rfl (Nat.le_of_ble_eq_true rfl) dX12_asks_257 ⟨Nat.le_of_ble_eq_true rfl, Nat.le_of_ble_eq_true rfl⟩ (fun x_255 f_256 H locs hw hP hD hS => ?_)
                            obtain ⟨rfl, bx_255⟩ := hw
                            refine lv_if_eq (tgt := 267) hx hb dX12_asks_260 (by decide) (fun c_258 => ?_) (fun c_258 => ?_)
                            · skip
                              rw [← Int32.toInt_inj, ti_0] at c_258
                              refine lv_iconst (v := 0) hx hb dX12_asks_267 (by decide) ?_
                              exact hcut_251 0 (by decide) _ _ hP hS ls (lv_sub hl [0, 1, 2, 3, 4, 5, 6, 7, 8, 9, 10, 11, 12, 13] rfl)
                            · skip
                              rw [← Int32.toInt_inj, ti_0] at c_258
                              refine lv_iconst (v := 1) hx hb dX12_asks_263 (by decide) ?_
                              refine lv_goto (tgt := 268) hx hb dX12_asks_264 (by decide) ?_
                              exact hcut_251 1 (by decide) _ _ hP hS ls (lv_sub hl [0, 1, 2, 3, 4, 5, 6, 7, 8, 9, 10, 11, 12, 13] rfl)
                      · skip
                        rw [← Int32.toInt_inj, ti_0] at c_233
                        exfalso
                        omega
                    refine lv_icmp_ge (tgt := 190) hx hb dX12_asks_157 (by decide) (fun c_259 => ?_) (fun c_259 => ?_)
                    · skip
                      rw [Int32.le_iff_toInt_le] at c_259
                      refine lv_iconst (v := 0) hx hb dX12_asks_190 (by decide) ?_
                      exact hcut_232 0 (by decide) _ _ hP hS ls (lv_sub hl [0, 1, 2, 3, 4, 5, 6, 7, 8, 9, 10, 11, 12] rfl)
                    · skip
                      rw [Int32.le_iff_toInt_le] at c_259
                      refine lv_aload_n hx hb dX12_asks_160 rfl (lv_at hl 9 rfl) ?_
                      refine lv_iload hx hb dX12_asks_161 (lv_at hl 0 rfl) ?_
                      refine lv_iconst (v := 0) hx hb dX12_asks_163 (by decide) ?_
                      refine lv_aload_n hx hb dX12_asks_164 rfl (lv_at hl 9 rfl) ?_
                      refine tk_getP (D := (dC, dI)) (ci := 12) (v := .ref a_17) (C := RX12) (T := TX12) (N := 56) hx hb hU inlX12 hown hK hP mo0 hfo_220 rfl 15 (by decide) (hU _ wd_175) (fun _ h9 => h9) rfl dX12_asks_165 ?_
                      refine lv_iload_n hx hb dX12_asks_168 rfl (lv_at hl 11 rfl) ?_
                      obtain ⟨g_261, hfo_260, hbg_261⟩ := un_580 (hG _ ma_17) ka_17
                      obtain ⟨a_262, hga_262, ma_262, ka_262⟩ := hbg_261 (Int32.toNatClampNeg p2) (in_lt (vp_in_iff.mpr (by constructor <;> omega)))
                      refine tk_aldA hx hb hK hP 4 ma_17 hfo_260 rfl (vp_in_iff.mpr (by constructor <;> omega)) hga_262 dX12_asks_169 ?_
                      refine lv_iload hx hb dX12_asks_170 (lv_at hl 0 rfl) ?_
                      obtain ⟨g_264, hfo_263, hbg_264⟩ := un_579 (hG _ ma_262) ka_262
                      refine tk_ildP hx hb hK hP 0 ma_262 hfo_263 rfl (vp_in_iff.mpr (by constructor <;> omega)) dX12_asks_172 ?_
                      refine lv_topi (fun x_265 ex_265 => ?_)
                      have bx_265 : ((-2147483648) ≤ x_265.toInt ∧ x_265.toInt ≤ 2147483647) := ⟨i32_lo _, i32_hi _⟩
                      refine tk_ViP (As := [.int x_226, .int 0, .int x_265]) (rest := []) (n := 3) hx hb hml hown hU hN hZ (s_X12_isDone_k12 l (dC, dI) cI cL cZ cR cG cH Z kd L f_219 hG o0 mo0 ko0 x_226 (by constructor <;> omega) 0 (by decide) x_265) wd_898 wd_899 wd_900 wd_5 wd_901 (by decide +kernel) ⟨Nat.le_of_ble_eq_true rfl, Nat.le_of_ble_eq_true rfl⟩ hK hP hD hS mo0 hfo_220 12 rfl rfl rfl hl.1 rfl (Nat.le_of_ble_eq_true rfl) dX12_asks_173 ⟨Nat.le_of_ble_eq_true rfl, Nat.le_of_ble_eq_true rfl⟩ (fun x_266 f_267 H locs hw hP hD hS => ?_)
                      obtain ⟨rfl, bx_266⟩ := hw
                      refine lv_if_eq (tgt := 190) hx hb dX12_asks_176 (by decide) (fun c_269 => ?_) (fun c_269 => ?_)
                      · skip
                        rw [← Int32.toInt_inj, ti_0] at c_269
                        refine lv_iconst (v := 0) hx hb dX12_asks_190 (by decide) ?_
                        exact hcut_232 0 (by decide) _ _ hP hS ls (lv_sub hl [0, 1, 2, 3, 4, 5, 6, 7, 8, 9, 10, 11, 12] rfl)
                      · skip
                        rw [← Int32.toInt_inj, ti_0] at c_269
                        refine lv_aload_n hx hb dX12_asks_179 rfl (lv_at hl 9 rfl) ?_
                        refine lv_iload hx hb dX12_asks_180 (lv_at hl 0 rfl) ?_
                        refine lv_iconst (v := 1) hx hb dX12_asks_182 (by decide) ?_
                        refine lv_iconst (v := 1) hx hb dX12_asks_183 (by decide) ?_
                        refine tk_ViP (As := [.int x_226, .int 1, .int 1]) (rest := []) (n := 3) hx hb hml hown hU hN hZ (s_X12_closed_k12 l (dC, dI) cI cL cZ cR cG cH Z kd L f_219 hG o0 mo0 ko0 x_226 (by constructor <;> omega) 1 (by decide) 1 (by decide)) wd_878 wd_879 wd_880 wd_5 wd_881 (by decide +kernel) ⟨Nat.le_of_ble_eq_true rfl, Nat.le_of_ble_eq_true rfl⟩ hK hP hD hS mo0 hfo_220 12 rfl rfl rfl hl.1 rfl (Nat.le_of_ble_eq_true rfl) dX12_asks_184 ⟨Nat.le_of_ble_eq_true rfl, Nat.le_of_ble_eq_true rfl⟩ (fun x_270 f_271 H locs hw hP hD hS => ?_)
                        obtain ⟨rfl, bx_270⟩ := hw
                        refine lv_goto (tgt := 191) hx hb dX12_asks_187 (by decide) ?_
                        exact hcut_232 x_270 (by constructor <;> omega) _ _ hP hS ls (lv_sub hl [0, 1, 2, 3, 4, 5, 6, 7, 8, 9, 10, 11, 12] rfl)
              exact hloop_214 4 0 (by decide) 0 (by decide) 0 (by decide) f hG _ _ hP hS hD hfr0 hfo_1 hfo_58 (by (try rw [ti_0]) <;> omega) ls hl
            · skip
              rw [← Int32.toInt_inj, ti_0] at c_187
              refine lv_iconst (v := 1) hx hb dX12_asks_114 (by decide) ?_
              exact W.zret (v := 1) (ty := .boolean) hx hb hr rfl (fun t ht hW => ⟨⟨1, f, rfl, ⟨hG, (by decide), hfr0, (fun b9 g9 h1 h2 => by rw [hfo_1] at h1; obtain rfl := Option.some.inj h1; rw [hfo_58] at h2; cases h2; intro j hj; have h8 := has0 j hj; omega)⟩, by rw [ht]; exact hP, va_K.moved hW.alike hK, pl_in hD⟩, hS.F ht⟩) hS.2.2 dX12_asks_115
        refine lv_if_eq (tgt := 85) hx hb dX12_asks_68 (by decide) (fun c_273 => ?_) (fun c_273 => ?_)
        · skip
          rw [← Int32.toInt_inj, ti_0] at c_273
          refine lv_iload hx hb dX12_asks_85 (lv_at hl 1 rfl) ?_
          refine lv_iconst (v := 1) hx hb dX12_asks_87 (by decide) ?_
          refine lv_icmp_eq (tgt := 97) hx hb dX12_asks_88 (by decide) (fun c_274 => ?_) (fun c_274 => ?_)
          · skip
            rw [← Int32.toInt_inj, ti_1] at c_274
            refine lv_iconst (v := 1) hx hb dX12_asks_97 (by decide) ?_
            refine lv_goto (tgt := 102) hx hb dX12_asks_98 (by decide) ?_
            exact hcut_77 1 (by decide) ls (lv_sub hl [0, 1, 2, 3, 4, 5, 6] rfl)
          · skip
            rw [← Int32.toInt_inj, ti_1] at c_274
            refine lv_iload hx hb dX12_asks_91 (lv_at hl 1 rfl) ?_
            refine lv_iconst (v := 2) hx hb dX12_asks_93 (by decide) ?_
            refine lv_icmp_ne (tgt := 101) hx hb dX12_asks_94 (by decide) (fun c_275 => ?_) (fun c_275 => ?_)
            · skip
              rw [← Int32.toInt_inj, ti_2] at c_275
              refine lv_iconst (v := 0) hx hb dX12_asks_101 (by decide) ?_
              exact hcut_77 0 (by decide) ls (lv_sub hl [0, 1, 2, 3, 4, 5, 6] rfl)
            · skip
              rw [← Int32.toInt_inj, ti_2] at c_275
              refine lv_iconst (v := 1) hx hb dX12_asks_97 (by decide) ?_
              refine lv_goto (tgt := 102) hx hb dX12_asks_98 (by decide) ?_
              exact hcut_77 1 (by decide) ls (lv_sub hl [0, 1, 2, 3, 4, 5, 6] rfl)
        · skip
          rw [← Int32.toInt_inj, ti_0] at c_273
          refine lv_iload hx hb dX12_asks_71 (lv_at hl 1 rfl) ?_
          refine lv_iconst (v := 3) hx hb dX12_asks_73 (by decide) ?_
          refine lv_icmp_ne (tgt := 81) hx hb dX12_asks_74 (by decide) (fun c_276 => ?_) (fun c_276 => ?_)
          · skip
            rw [← Int32.toInt_inj, ti_3] at c_276
            refine lv_iconst (v := 0) hx hb dX12_asks_81 (by decide) ?_
            refine lv_goto (tgt := 102) hx hb dX12_asks_82 (by decide) ?_
            exact hcut_77 0 (by decide) ls (lv_sub hl [0, 1, 2, 3, 4, 5, 6] rfl)
          · skip
            rw [← Int32.toInt_inj, ti_3] at c_276
            refine lv_iconst (v := 1) hx hb dX12_asks_77 (by decide) ?_
            refine lv_goto (tgt := 102) hx hb dX12_asks_78 (by decide) ?_
            exact hcut_77 1 (by decide) ls (lv_sub hl [0, 1, 2, 3, 4, 5, 6] rfl)
      refine lv_if_eq (tgt := 63) hx hb dX12_asks_45 (by decide) (fun c_277 => ?_) (fun c_277 => ?_)
      · skip
        rw [← Int32.toInt_inj, ti_0] at c_277
        refine lv_iconst (v := 0) hx hb dX12_asks_63 (by decide) ?_
        exact hcut_75 0 (by decide) ls (lv_sub hl [0, 1, 2, 3, 4, 5] rfl)
      · skip
        rw [← Int32.toInt_inj, ti_0] at c_277
        refine lv_iload hx hb dX12_asks_48 (lv_at hl 0 rfl) ?_
        refine lv_if_eq (tgt := 59) hx hb dX12_asks_50 (by decide) (fun c_278 => ?_) (fun c_278 => ?_)
        · skip
          rw [← Int32.toInt_inj, ti_0] at c_278
          refine lv_iconst (v := 1) hx hb dX12_asks_59 (by decide) ?_
          refine lv_goto (tgt := 64) hx hb dX12_asks_60 (by decide) ?_
          exact hcut_75 1 (by decide) ls (lv_sub hl [0, 1, 2, 3, 4, 5] rfl)
        · skip
          rw [← Int32.toInt_inj, ti_0] at c_278
          refine lv_iload hx hb dX12_asks_53 (lv_at hl 0 rfl) ?_
          refine lv_iconst (v := 2) hx hb dX12_asks_55 (by decide) ?_
          refine lv_icmp_ne (tgt := 63) hx hb dX12_asks_56 (by decide) (fun c_279 => ?_) (fun c_279 => ?_)
          · skip
            rw [← Int32.toInt_inj, ti_2] at c_279
            refine lv_iconst (v := 0) hx hb dX12_asks_63 (by decide) ?_
            exact hcut_75 0 (by decide) ls (lv_sub hl [0, 1, 2, 3, 4, 5] rfl)
          · skip
            rw [← Int32.toInt_inj, ti_2] at c_279
            refine lv_iconst (v := 1) hx hb dX12_asks_59 (by decide) ?_
            refine lv_goto (tgt := 64) hx hb dX12_asks_60 (by decide) ?_
            exact hcut_75 1 (by decide) ls (lv_sub hl [0, 1, 2, 3, 4, 5] rfl)
    refine lv_icmp_ne (tgt := 32) hx hb dX12_asks_25 (by decide) (fun c_280 => ?_) (fun c_280 => ?_)
    · skip
      rw [← Int32.toInt_inj] at c_280
      refine lv_iconst (v := 0) hx hb dX12_asks_32 (by decide) ?_
      exact hcut_70 0 (by decide) ls (lv_sub hl [0, 1, 2, 3] rfl)
    · skip
      rw [← Int32.toInt_inj] at c_280
      refine lv_iconst (v := 1) hx hb dX12_asks_28 (by decide) ?_
      refine lv_goto (tgt := 33) hx hb dX12_asks_29 (by decide) ?_
      exact hcut_70 1 (by decide) ls (lv_sub hl [0, 1, 2, 3] rfl)
  · skip
    rw [← Int32.toInt_inj] at c_64
    refine lv_iconst (v := 1) hx hb dX12_asks_13 (by decide) ?_
    exact W.zret (v := 1) (ty := .boolean) hx hb hr rfl (fun t ht hW => ⟨⟨1, f, rfl, ⟨hG, (by decide), hfr0, (fun b9 g9 h1 h2 => by rw [hfo_1] at h1; obtain rfl := Option.some.inj h1; rw [hfo_58] at h2; cases h2; intro j hj; have h8 := has0 j hj; omega)⟩, by rw [ht]; exact hP, va_K.moved hW.alike hK, pl_in hD⟩, hS.F ht⟩) hS.2.2 dX12_asks_14
