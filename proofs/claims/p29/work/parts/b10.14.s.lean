set_option maxHeartbeats 8000000 in
set_option maxRecDepth 100000 in
theorem s_X12_asks_k12 (l : Launch) (D : va_G) (cI cL cZ cR cG cH : ClassId) (Z : zT) (kd : Nat → Nat) (L : List Nat) (f : Nat → va_E) (hG : GI (okc cI cL cZ cR cG cH L kd) kd L f) (o0 : Nat) (mo0 : o0 ∈ L) (ko0 : kd o0 = 12) (p1 : Int32) (bp1 : (0 ≤ p1.toInt ∧ p1.toInt ≤ 7)) (p2 : Int32) (bp2 : (0 ≤ p2.toInt ∧ p2.toInt ≤ 13)) (p3 : Int32) (hxpre0 : ∀ b9 g9, fldR (f o0) 19 = some b9 → f b9 = .inl (cI, 20, .inl g9) → ∀ j : Nat, (j : Int) = p2.toInt + 1 → (g9 j).toInt ≤ 8 * p2.toInt + p1.toInt) : mPI l D cI cL cZ cR cG cH Z yX12_asks cX12_asks 14 (some .boolean) 3 67 [.ref o0, .int p1, .int p2, .int p3] L f (fun (r : Int32) (f9 : Nat → va_E) => GI (okc cI cL cZ cR cG cH L kd) kd L f9 ∧ (0 ≤ r.toInt ∧ r.toInt ≤ 1) ∧ (∀ b, kd b ≠ 581 → kd b ≠ 583 → kd b ≠ 585 → kd b ≠ 587 → f9 b = f b) ∧ (∀ b9 g9, fldR (f9 o0) 19 = some b9 → f9 b9 = .inl (cI, 20, .inl g9) → ∀ j : Nat, (j : Int) = p2.toInt + 1 → (g9 j).toInt ≤ 8 * p2.toInt + p1.toInt + 1)) := by
  obtain ⟨dC, dI⟩ := D
  refine Met.ofW (cc := cX12_asks) (maxL := 14) (ret := (some .boolean)) (by decide) rfl ?_
  intro p e s m args below meth c s₁ B hml hv
  obtain ⟨rfl, hP, hK, hD0, hN, hZ⟩ := hv
  have hx := B.exec
  have hb := B.bytes
  have hr := B.returns
  have hU : ∀ w ∈ wsU, w.before _ s = true := fun w h => atoms_spec (ws := wU yX12_asks cX12_asks 14 (some .boolean)) B.pre w (List.mem_cons_of_mem _ h)
  have hown : s.vm.findClass RX12 = some m.cls := findClass_of_methodNamed B.named
  have hlocks := B.notSynchronized
  have hD := pl_in hD0
  have hS : va_S (fun q => q ∈ L) s.heap s.heap [] := va_S.rf
  have hl := lv_entry ([.ref o0, .int p1, .int p2, .int p3]) (n := 14) (Nat.le_of_ble_eq_true rfl)
  rw [lg_entry_eq]
  generalize (lg_sl ([.ref o0, .int p1, .int p2, .int p3]) ++ List.replicate (14 - (lg_sl ([.ref o0, .int p1, .int p2, .int p3])).length) Slot.unset).toArray = ls at hl ⊢
  have hl : lv_has ls 14 [(0, .ref o0), (1, .int p1), (2, .int p2), (3, .int p3)] := hl
  have bp3 : ((-2147483648) ≤ p3.toInt ∧ p3.toInt ≤ 2147483647) := ⟨i32_lo _, i32_hi _⟩
  have hfr0 : ∀ b, kd b ≠ 581 → kd b ≠ 583 → kd b ≠ 585 → kd b ≠ 587 → f b = f b := fun _ _ _ _ _ => rfl
  obtain ⟨a_1, a_2, a_3, v_4, a_5, v_6, v_7, v_8, v_9, v_10, v_11, v_12, v_13, v_14, v_15, a_16, a_17, a_18, a_19, a_20, a_21, a_22, a_23, v_24, v_25, v_26, v_27, v_28, a_29, v_30, a_31, a_32, v_33, v_34, a_35, v_36, a_37, a_38, v_39, v_40, a_41, a_42, a_43, v_44, a_45, a_46, a_47, a_48, a_49, a_50, a_51, a_52, a_53, v_54, v_55, a_56, hfo_57, fa_58⟩ := un12 (hG _ mo0) ko0
  obtain ⟨ma_16, ka_16⟩ := fa12_15 fa_58
  obtain ⟨ma_17, ka_17⟩ := fa12_16 fa_58
  obtain ⟨ma_18, ka_18⟩ := fa12_17 fa_58
  obtain ⟨ma_19, ka_19⟩ := fa12_18 fa_58
  obtain ⟨ma_20, ka_20⟩ := fa12_19 fa_58
  obtain ⟨g_60, hfo_59, hbg_60⟩ := un_587 (hG _ ma_20) ka_20
  have has0 := hxpre0 a_20 g_60 (by rw [hfo_57]; rfl) hfo_59
  refine lv_iload_n hx hb dX12_asks_0 rfl (lv_at hl 3 rfl) ?_
  refine lv_bipush (v := 9) hx hb dX12_asks_1 (by decide) ?_
  refine lv_idiv hx hb dX12_asks_3 (by decide) ?_
  refine lv_topi (fun x_61 ex_61 => ?_)
  have bx_61 : ((-2147483648) ≤ x_61.toInt ∧ x_61.toInt ≤ 2147483647) := ⟨i32_lo _, i32_hi _⟩
  refine lv_aload_n hx hb dX12_asks_4 rfl (lv_at hl 0 rfl) ?_
  refine lv_iload_n hx hb dX12_asks_5 rfl (lv_at hl 1 rfl) ?_
  refine lv_iconst (v := 0) hx hb dX12_asks_6 (by decide) ?_
  refine tk_ViP (As := [.int p1, .int 0]) (rest := [.int x_61]) (n := 2) hx hb hml hown hU hN hZ (s_X12_ofRule_k12 l (dC, dI) cI cL cZ cR cG cH Z kd L f hG o0 mo0 ko0 p1 (by constructor <;> omega) 0 (by decide)) wd_894 wd_895 wd_896 wd_5 wd_897 (by decide +kernel) ⟨Nat.le_of_ble_eq_true rfl, Nat.le_of_ble_eq_true rfl⟩ hK hP hD hS mo0 hfo_57 12 rfl rfl rfl hl.1 rfl (Nat.le_of_ble_eq_true rfl) dX12_asks_7 ⟨Nat.le_of_ble_eq_true rfl, Nat.le_of_ble_eq_true rfl⟩ (fun x_62 f_63 H locs hw hP hD hS => ?_)
  obtain ⟨rfl, bx_62⟩ := hw
  refine lv_icmp_eq (tgt := 15) hx hb dX12_asks_10 (by decide) (fun c_65 => ?_) (fun c_65 => ?_)
  · skip
    rw [← Int32.toInt_inj] at c_65
    refine lv_iload_n hx hb dX12_asks_15 rfl (lv_at hl 3 rfl) ?_
    refine lv_bipush (v := 9) hx hb dX12_asks_16 (by decide) ?_
    refine lv_irem hx hb dX12_asks_18 (by decide) ?_
    refine lv_topi (fun x_66 ex_66 => ?_)
    have bx_66 : ((-2147483648) ≤ x_66.toInt ∧ x_66.toInt ≤ 2147483647) := ⟨i32_lo _, i32_hi _⟩
    refine lv_aload_n hx hb dX12_asks_19 rfl (lv_at hl 0 rfl) ?_
    refine lv_iload_n hx hb dX12_asks_20 rfl (lv_at hl 1 rfl) ?_
    refine lv_iconst (v := 1) hx hb dX12_asks_21 (by decide) ?_
    refine tk_ViP (As := [.int p1, .int 1]) (rest := [.int x_66]) (n := 2) hx hb hml hown hU hN hZ (s_X12_ofRule_k12 l (dC, dI) cI cL cZ cR cG cH Z kd L f hG o0 mo0 ko0 p1 (by constructor <;> omega) 1 (by decide)) wd_894 wd_895 wd_896 wd_5 wd_897 (by decide +kernel) ⟨Nat.le_of_ble_eq_true rfl, Nat.le_of_ble_eq_true rfl⟩ hK hP hD hS mo0 hfo_57 12 rfl rfl rfl hl.1 rfl (Nat.le_of_ble_eq_true rfl) dX12_asks_22 ⟨Nat.le_of_ble_eq_true rfl, Nat.le_of_ble_eq_true rfl⟩ (fun x_67 f_68 H locs hw hP hD hS => ?_)
    obtain ⟨rfl, bx_67⟩ := hw
    have hcut_71 : ∀ (y_70 : Int32), (0 ≤ y_70.toInt ∧ y_70.toInt ≤ 1) → ∀ (ls : Array Slot), lv_has ls 14 [(0, .ref o0), (1, .int p1), (2, .int p2), (3, .int p3)] → W p l e (headSpec (wU yX12_asks cX12_asks 14 (some .boolean)) { frames := 3, cells := 0, slots := 0, locals := 67 }).room s m [.ref o0, .int p1, .int p2, .int p3].toArray below meth c H locs 0 0 (MQ below (va_Qi (fun (r : Int32) (f9 : Nat → va_E) => GI (okc cI cL cZ cR cG cH L kd) kd L f9 ∧ (0 ≤ r.toInt ∧ r.toInt ≤ 1) ∧ (∀ b, kd b ≠ 581 → kd b ≠ 583 → kd b ≠ 585 → kd b ≠ 587 → f9 b = f b) ∧ (∀ b9 g9, fldR (f9 o0) 19 = some b9 → f9 b9 = .inl (cI, 20, .inl g9) → ∀ j : Nat, (j : Int) = p2.toInt + 1 → (g9 j).toInt ≤ 8 * p2.toInt + p1.toInt + 1)) (qP (dC, dI) cI cL cZ cR cG cH L) (fun q => q ∈ L)) [.ref o0, .int p1, .int p2, .int p3].toArray s 0 0 (fun q => q ∈ L)) (F0 m 33 ls [.int y_70]) := by
      intro y_70 by_70 ls hl
      refine lv_istore (lv' := [(4, .int y_70), (0, .ref o0), (1, .int p1), (2, .int p2), (3, .int p3)]) hx hb dX12_asks_33 hl (by decide) rfl (fun ls hl => ?_)
      refine lv_aload_n hx hb dX12_asks_35 rfl (lv_at hl 1 rfl) ?_
      refine lv_iload_n hx hb dX12_asks_36 rfl (lv_at hl 2 rfl) ?_
      refine lv_iconst (v := 2) hx hb dX12_asks_37 (by decide) ?_
      refine tk_ViP (As := [.int p1, .int 2]) (rest := []) (n := 2) hx hb hml hown hU hN hZ (s_X12_ofRule_k12_c2_2 l (dC, dI) cI cL cZ cR cG cH Z kd L f hG o0 mo0 ko0 p1 (by constructor <;> omega)) wd_894 wd_895 wd_896 wd_5 wd_897 (by decide +kernel) ⟨Nat.le_of_ble_eq_true rfl, Nat.le_of_ble_eq_true rfl⟩ hK hP hD hS mo0 hfo_57 12 rfl rfl rfl hl.1 rfl (Nat.le_of_ble_eq_true rfl) dX12_asks_38 ⟨Nat.le_of_ble_eq_true rfl, Nat.le_of_ble_eq_true rfl⟩ (fun x_72 f_73 H locs hw hP hD hS => ?_)
      obtain ⟨rfl, bx_72⟩ := hw
      refine lv_istore (lv' := [(5, .int x_72), (4, .int y_70), (0, .ref o0), (1, .int p1), (2, .int p2), (3, .int p3)]) hx hb dX12_asks_41 hl (by decide) rfl (fun ls hl => ?_)
      refine lv_iload hx hb dX12_asks_43 (lv_at hl 1 rfl) ?_
      have hcut_76 : ∀ (y_75 : Int32), (0 ≤ y_75.toInt ∧ y_75.toInt ≤ 1) → ∀ (ls : Array Slot), lv_has ls 14 [(5, .int x_72), (4, .int y_70), (0, .ref o0), (1, .int p1), (2, .int p2), (3, .int p3)] → W p l e (headSpec (wU yX12_asks cX12_asks 14 (some .boolean)) { frames := 3, cells := 0, slots := 0, locals := 67 }).room s m [.ref o0, .int p1, .int p2, .int p3].toArray below meth c H locs 0 0 (MQ below (va_Qi (fun (r : Int32) (f9 : Nat → va_E) => GI (okc cI cL cZ cR cG cH L kd) kd L f9 ∧ (0 ≤ r.toInt ∧ r.toInt ≤ 1) ∧ (∀ b, kd b ≠ 581 → kd b ≠ 583 → kd b ≠ 585 → kd b ≠ 587 → f9 b = f b) ∧ (∀ b9 g9, fldR (f9 o0) 19 = some b9 → f9 b9 = .inl (cI, 20, .inl g9) → ∀ j : Nat, (j : Int) = p2.toInt + 1 → (g9 j).toInt ≤ 8 * p2.toInt + p1.toInt + 1)) (qP (dC, dI) cI cL cZ cR cG cH L) (fun q => q ∈ L)) [.ref o0, .int p1, .int p2, .int p3].toArray s 0 0 (fun q => q ∈ L)) (F0 m 64 ls [.int y_75]) := by
        intro y_75 by_75 ls hl
        refine lv_istore (lv' := [(6, .int y_75), (5, .int x_72), (4, .int y_70), (0, .ref o0), (1, .int p1), (2, .int p2), (3, .int p3)]) hx hb dX12_asks_64 hl (by decide) rfl (fun ls hl => ?_)
        refine lv_iload hx hb dX12_asks_66 (lv_at hl 2 rfl) ?_
        have hcut_78 : ∀ (y_77 : Int32), (0 ≤ y_77.toInt ∧ y_77.toInt ≤ 1) → ∀ (ls : Array Slot), lv_has ls 14 [(6, .int y_75), (5, .int x_72), (4, .int y_70), (0, .ref o0), (1, .int p1), (2, .int p2), (3, .int p3)] → W p l e (headSpec (wU yX12_asks cX12_asks 14 (some .boolean)) { frames := 3, cells := 0, slots := 0, locals := 67 }).room s m [.ref o0, .int p1, .int p2, .int p3].toArray below meth c H locs 0 0 (MQ below (va_Qi (fun (r : Int32) (f9 : Nat → va_E) => GI (okc cI cL cZ cR cG cH L kd) kd L f9 ∧ (0 ≤ r.toInt ∧ r.toInt ≤ 1) ∧ (∀ b, kd b ≠ 581 → kd b ≠ 583 → kd b ≠ 585 → kd b ≠ 587 → f9 b = f b) ∧ (∀ b9 g9, fldR (f9 o0) 19 = some b9 → f9 b9 = .inl (cI, 20, .inl g9) → ∀ j : Nat, (j : Int) = p2.toInt + 1 → (g9 j).toInt ≤ 8 * p2.toInt + p1.toInt + 1)) (qP (dC, dI) cI cL cZ cR cG cH L) (fun q => q ∈ L)) [.ref o0, .int p1, .int p2, .int p3].toArray s 0 0 (fun q => q ∈ L)) (F0 m 102 ls [.int y_77]) := by
          intro y_77 by_77 ls hl
          refine lv_istore (lv' := [(7, .int y_77), (6, .int y_75), (5, .int x_72), (4, .int y_70), (0, .ref o0), (1, .int p1), (2, .int p2), (3, .int p3)]) hx hb dX12_asks_102 hl (by decide) rfl (fun ls hl => ?_)
          refine lv_iload hx hb dX12_asks_104 (lv_at hl 1 rfl) ?_
          refine lv_if_ne (tgt := 116) hx hb dX12_asks_106 (by decide) (fun c_79 => ?_) (fun c_79 => ?_)
          · skip
            rw [← Int32.toInt_inj, ti_0] at c_79
            refine lv_aload_n hx hb dX12_asks_116 rfl (lv_at hl 4 rfl) ?_
            refine tk_getP (D := (dC, dI)) (ci := 12) (v := .ref a_20) (C := RX12) (T := TX12) (N := 56) hx hb hU inlX12 hown hK hP mo0 hfo_57 rfl 19 (by decide) (hU _ wd_179) (fun _ h9 => h9) rfl dX12_asks_117 ?_
            refine lv_iload_n hx hb dX12_asks_120 rfl (lv_at hl 6 rfl) ?_
            refine lv_iconst (v := 1) hx hb dX12_asks_121 (by decide) ?_
            refine lv_iadd hx hb dX12_asks_122 ?_
            refine lv_topi (fun x_80 ex_80 => ?_)
            have hx_80 : x_80.toInt = p2.toInt + 1 := by rw [ex_80, ad_I (by rw [ti_1]; omega) (by rw [ti_1]; omega), ti_1]
            have bx_80 : (1 ≤ x_80.toInt ∧ x_80.toInt ≤ 14) := by constructor <;> omega
            refine tk_ildP hx hb hK hP 0 ma_20 hfo_59 rfl (vp_in_iff.mpr (by constructor <;> omega)) dX12_asks_123 ?_
            refine lv_topi (fun x_81 ex_81 => ?_)
            have hx_81 : 0 ≤ x_81.toInt ∧ x_81.toInt ≤ 8 * x_80.toInt := by have hc9 := cl_I (i := x_80) (by omega); have h8 := hbg_60 (Int32.toNatClampNeg x_80); rw [ex_81]; constructor <;> omega
            have bx_81 : (0 ≤ x_81.toInt ∧ x_81.toInt ≤ 112) := by constructor <;> omega
            have has1 : x_81.toInt ≤ 8 * p2.toInt + p1.toInt := by have hc9 := cl_I (i := x_80) (by omega); rw [ex_81]; exact has0 _ (by omega)
            refine lv_istore (lv' := [(8, .int x_81), (7, .int y_77), (6, .int y_75), (5, .int x_72), (4, .int y_70), (0, .ref o0), (1, .int p1), (2, .int p2), (3, .int p3)]) hx hb dX12_asks_124 hl (by decide) rfl (fun ls hl => ?_)
            refine lv_iconst (v := 0) hx hb dX12_asks_126 (by decide) ?_
            refine lv_istore (lv' := [(9, .int 0), (8, .int x_81), (7, .int y_77), (6, .int y_75), (5, .int x_72), (4, .int y_70), (0, .ref o0), (1, .int p1), (2, .int p2), (3, .int p3)]) hx hb dX12_asks_127 hl (by decide) rfl (fun ls hl => ?_)
            refine lv_iconst (v := 0) hx hb dX12_asks_129 (by decide) ?_
            refine lv_istore (lv' := [(10, .int 0), (9, .int 0), (8, .int x_81), (7, .int y_77), (6, .int y_75), (5, .int x_72), (4, .int y_70), (0, .ref o0), (1, .int p1), (2, .int p2), (3, .int p3)]) hx hb dX12_asks_130 hl (by decide) rfl (fun ls hl => ?_)
            refine lv_iconst (v := 0) hx hb dX12_asks_132 (by decide) ?_
            refine lv_istore (lv' := [(11, .int 0), (10, .int 0), (9, .int 0), (8, .int x_81), (7, .int y_77), (6, .int y_75), (5, .int x_72), (4, .int y_70), (0, .ref o0), (1, .int p1), (2, .int p2), (3, .int p3)]) hx hb dX12_asks_133 hl (by decide) rfl (fun ls hl => ?_)
            have hloop_106 : ∀ (n : Nat), ∀ (y_107 : Int32), (0 ≤ y_107.toInt ∧ y_107.toInt ≤ 3) → ∀ (y_108 : Int32), (0 ≤ y_108.toInt ∧ y_108.toInt ≤ 1) → ∀ (y_109 : Int32), ((-2147483648) ≤ y_109.toInt ∧ y_109.toInt ≤ 2147483647) → ∀ (f_111 : Nat → va_E), GI (okc cI cL cZ cR cG cH L kd) kd L f_111 → ∀ (H : Heap) (locs : List Loc), va_P (dC, dI) vwCl (va_pl L f_111) H → va_S (fun q => q ∈ L) s.heap H locs → va_D (fun q => q ∈ L) (va_pl L f_111) → (∀ b, kd b ≠ 581 → kd b ≠ 583 → kd b ≠ 585 → kd b ≠ 587 → f_111 b = f b) → (f_111 o0 = .inr (12, [.ref a_1, .ref a_2, .ref a_3, .int v_4, .ref a_5, .int v_6, .int v_7, .int v_8, .int v_9, .int v_10, .int v_11, .int v_12, .int v_13, .int v_14, .int v_15, .ref a_16, .ref a_17, .ref a_18, .ref a_19, .ref a_20, .ref a_21, .ref a_22, .ref a_23, .int v_24, .int v_25, .int v_26, .int v_27, .int v_28, .ref a_29, .int v_30, .ref a_31, .ref a_32, .int v_33, .int v_34, .ref a_35, .int v_36, .ref a_37, .ref a_38, .int v_39, .int v_40, .ref a_41, .ref a_42, .ref a_43, .int v_44, .ref a_45, .ref a_46, .ref a_47, .ref a_48, .ref a_49, .ref a_50, .ref a_51, .ref a_52, .ref a_53, .int v_54, .int v_55, .ref a_56])) → (f_111 a_20 = .inl (cI, 20, .inl g_60)) → 3 - y_107.toInt < (n : Int) → ∀ (ls : Array Slot), lv_has ls 14 [(11, .int y_107), (10, .int y_108), (9, .int y_109), (8, .int x_81), (7, .int y_77), (6, .int y_75), (5, .int x_72), (4, .int y_70), (0, .ref o0), (1, .int p1), (2, .int p2), (3, .int p3)] → W p l e (headSpec (wU yX12_asks cX12_asks 14 (some .boolean)) { frames := 3, cells := 0, slots := 0, locals := 67 }).room s m [.ref o0, .int p1, .int p2, .int p3].toArray below meth c H locs 0 0 (MQ below (va_Qi (fun (r : Int32) (f9 : Nat → va_E) => GI (okc cI cL cZ cR cG cH L kd) kd L f9 ∧ (0 ≤ r.toInt ∧ r.toInt ≤ 1) ∧ (∀ b, kd b ≠ 581 → kd b ≠ 583 → kd b ≠ 585 → kd b ≠ 587 → f9 b = f b) ∧ (∀ b9 g9, fldR (f9 o0) 19 = some b9 → f9 b9 = .inl (cI, 20, .inl g9) → ∀ j : Nat, (j : Int) = p2.toInt + 1 → (g9 j).toInt ≤ 8 * p2.toInt + p1.toInt + 1)) (qP (dC, dI) cI cL cZ cR cG cH L) (fun q => q ∈ L)) [.ref o0, .int p1, .int p2, .int p3].toArray s 0 0 (fun q => q ∈ L)) (F0 m 135 ls []) := by
              intro n
              induction n with
              | zero => intro y_107 by_107 y_108 by_108 y_109 by_109 f_111 hG H locs hP hS hD hfr0 hfo_112 hfo_113 hmuhloop_106 ls hl; exfalso; omega
              | succ n ih_hloop_106 =>
                intro y_107 by_107 y_108 by_108 y_109 by_109 f_111 hG H locs hP hS hD hfr0 hfo_112 hfo_113 hmuhloop_106 ls hl
                refine lv_iload hx hb dX12_asks_135 (lv_at hl 0 rfl) ?_
                refine lv_iconst (v := 3) hx hb dX12_asks_137 (by decide) ?_
                refine lv_icmp_ge (tgt := 276) hx hb dX12_asks_138 (by decide) (fun c_114 => ?_) (fun c_114 => ?_)
                · skip
                  rw [Int32.le_iff_toInt_le, ti_3] at c_114
                  refine lv_iload hx hb dX12_asks_276 (lv_at hl 4 rfl) ?_
                  refine lv_if_eq (tgt := 292) hx hb dX12_asks_278 (by decide) (fun c_115 => ?_) (fun c_115 => ?_)
                  · skip
                    rw [← Int32.toInt_inj, ti_0] at c_115
                    refine lv_iload hx hb dX12_asks_292 (lv_at hl 1 rfl) ?_
                    refine lv_if_eq (tgt := 299) hx hb dX12_asks_294 (by decide) (fun c_116 => ?_) (fun c_116 => ?_)
                    · skip
                      rw [← Int32.toInt_inj, ti_0] at c_116
                      refine lv_aload_n hx hb dX12_asks_299 rfl (lv_at hl 8 rfl) ?_
                      refine tk_getP (D := (dC, dI)) (ci := 12) (v := .ref a_18) (C := RX12) (T := TX12) (N := 56) hx hb hU inlX12 hown hK hP mo0 hfo_112 rfl 17 (by decide) (hU _ wd_177) (fun _ h9 => h9) rfl dX12_asks_300 ?_
                      refine lv_iload_n hx hb dX12_asks_303 rfl (lv_at hl 10 rfl) ?_
                      refine lv_iconst (v := 1) hx hb dX12_asks_304 (by decide) ?_
                      refine lv_iadd hx hb dX12_asks_305 ?_
                      refine lv_topi (fun x_117 ex_117 => ?_)
                      have hx_117 : x_117.toInt = p2.toInt + 1 := by rw [ex_117, ad_I (by rw [ti_1]; omega) (by rw [ti_1]; omega), ti_1]
                      have bx_117 : (1 ≤ x_117.toInt ∧ x_117.toInt ≤ 14) := by constructor <;> omega
                      obtain ⟨g_119, hfo_118, hbg_119⟩ := un_584 (hG _ ma_18) ka_18
                      obtain ⟨a_120, hga_120, ma_120, ka_120⟩ := hbg_119 (Int32.toNatClampNeg x_117) (in_lt (vp_in_iff.mpr (by constructor <;> omega)))
                      refine tk_aldA hx hb hK hP 4 ma_18 hfo_118 rfl (vp_in_iff.mpr (by constructor <;> omega)) hga_120 dX12_asks_306 ?_
                      refine lv_iload hx hb dX12_asks_307 (lv_at hl 3 rfl) ?_
                      refine lv_iload_n hx hb dX12_asks_309 rfl (lv_at hl 9 rfl) ?_
                      obtain ⟨g_122, hfo_121, hbg_122⟩ := un_583 (hG _ ma_120) ka_120
                      refine tk_istP hx hb hK hP hD hS 0 ma_120 hfo_121 rfl (vp_in_iff.mpr (by constructor <;> omega)) dX12_asks_310 (fun H locs hP hD hS => ?_)
                      obtain ⟨f_124, ef_124⟩ : ∃ y : Nat → va_E, y = va_up f_111 a_120 (.inl (cI, 160, .inl (upd g_122 (Int32.toNatClampNeg x_81) p1))) := ⟨_, rfl⟩
                      have hP : va_P (dC, dI) vwCl (va_pl L f_124) H := by rw [ef_124]; exact hP
                      have hD : va_D (fun q => q ∈ L) (va_pl L f_124) := by rw [ef_124]; exact hD
                      have hG : GI (okc cI cL cZ cR cG cH L kd) kd L f_124 := by rw [ef_124]; exact hG.set a_120 (mk_583 ka_120 ⟨_, rfl, okI_up hbg_122 (by constructor <;> omega) _⟩)
                      have hfo_125 : f_124 o0 = .inr (12, [.ref a_1, .ref a_2, .ref a_3, .int v_4, .ref a_5, .int v_6, .int v_7, .int v_8, .int v_9, .int v_10, .int v_11, .int v_12, .int v_13, .int v_14, .int v_15, .ref a_16, .ref a_17, .ref a_18, .ref a_19, .ref a_20, .ref a_21, .ref a_22, .ref a_23, .int v_24, .int v_25, .int v_26, .int v_27, .int v_28, .ref a_29, .int v_30, .ref a_31, .ref a_32, .int v_33, .int v_34, .ref a_35, .int v_36, .ref a_37, .ref a_38, .int v_39, .int v_40, .ref a_41, .ref a_42, .ref a_43, .int v_44, .ref a_45, .ref a_46, .ref a_47, .ref a_48, .ref a_49, .ref a_50, .ref a_51, .ref a_52, .ref a_53, .int v_54, .int v_55, .ref a_56]) := by rw [ef_124, up_ne (kd_ne ka_120 ko0 (by decide))]; exact hfo_112
                      have hfo_126 : f_124 a_20 = .inl (cI, 20, .inl g_60) := by rw [ef_124, up_ne (kd_ne ka_120 ka_20 (by decide))]; exact hfo_113
                      have hfo_127 : f_124 a_18 = .inl (cG, 20, .inr (.inr (.inr (.inr g_119)))) := by rw [ef_124, up_ne (kd_ne ka_120 ka_18 (by decide))]; exact hfo_118
                      have hfr0 : ∀ b, kd b ≠ 581 → kd b ≠ 583 → kd b ≠ 585 → kd b ≠ 587 → f_124 b = f b := fun b q581 q583 q585 q587 => (congrFun ef_124 b).trans ((up_ne (fun e9 => q583 (by rw [e9]; exact ka_120))).trans (hfr0 b q581 q583 q585 q587))
                      have hfo_128 : f_124 a_120 = .inl (cI, 160, .inl (upd g_122 (Int32.toNatClampNeg x_81) p1)) := by rw [ef_124]; exact up_self
                      refine lv_aload_n hx hb dX12_asks_311 rfl (lv_at hl 8 rfl) ?_
                      refine tk_getP (D := (dC, dI)) (ci := 12) (v := .ref a_20) (C := RX12) (T := TX12) (N := 56) hx hb hU inlX12 hown hK hP mo0 hfo_125 rfl 19 (by decide) (hU _ wd_179) (fun _ h9 => h9) rfl dX12_asks_312 ?_
                      refine lv_iload_n hx hb dX12_asks_315 rfl (lv_at hl 10 rfl) ?_
                      refine lv_iconst (v := 1) hx hb dX12_asks_316 (by decide) ?_
                      refine lv_iadd hx hb dX12_asks_317 ?_
                      refine lv_topi (fun x_129 ex_129 => ?_)
                      have hx_129 : x_129.toInt = p2.toInt + 1 := by rw [ex_129, ad_I (by rw [ti_1]; omega) (by rw [ti_1]; omega), ti_1]
                      have bx_129 : (1 ≤ x_129.toInt ∧ x_129.toInt ≤ 14) := by constructor <;> omega
                      refine lv_iload hx hb dX12_asks_318 (lv_at hl 3 rfl) ?_
                      refine lv_iconst (v := 1) hx hb dX12_asks_320 (by decide) ?_
                      refine lv_iadd hx hb dX12_asks_321 ?_
                      refine lv_topi (fun x_130 ex_130 => ?_)
                      have hx_130 : x_130.toInt = x_81.toInt + 1 := by rw [ex_130, ad_I (by rw [ti_1]; omega) (by rw [ti_1]; omega), ti_1]
                      have bx_130 : (1 ≤ x_130.toInt ∧ x_130.toInt ≤ 112) := by constructor <;> omega
                      refine tk_istP hx hb hK hP hD hS 0 ma_20 hfo_126 rfl (vp_in_iff.mpr (by constructor <;> omega)) dX12_asks_322 (fun H locs hP hD hS => ?_)
                      have hc9 := cl_I (i := x_129) (by omega)
                      obtain ⟨g_131, eqg_131⟩ : ∃ y : Nat → Int32, y = upd g_60 (Int32.toNatClampNeg x_129) x_130 := ⟨_, rfl⟩
                      rw [← eqg_131] at hP hD
                      have hbg_131 : ∀ j : Nat, 0 ≤ (g_131 j).toInt ∧ (g_131 j).toInt ≤ 8 * (j : Int) := by rw [eqg_131]; exact (by intro j; by_cases hj : j = Int32.toNatClampNeg x_129; (· subst hj; rw [pk_us]; constructor <;> omega); (· rw [pk_un hj]; exact hbg_60 j))
                      obtain ⟨f_133, ef_133⟩ : ∃ y : Nat → va_E, y = va_up f_124 a_20 (.inl (cI, 20, .inl g_131)) := ⟨_, rfl⟩
                      have hP : va_P (dC, dI) vwCl (va_pl L f_133) H := by rw [ef_133]; exact hP
                      have hD : va_D (fun q => q ∈ L) (va_pl L f_133) := by rw [ef_133]; exact hD
                      have hG : GI (okc cI cL cZ cR cG cH L kd) kd L f_133 := by rw [ef_133]; exact hG.set a_20 (mk_587 ka_20 ⟨_, rfl, hbg_131⟩)
                      have hfo_134 : f_133 o0 = .inr (12, [.ref a_1, .ref a_2, .ref a_3, .int v_4, .ref a_5, .int v_6, .int v_7, .int v_8, .int v_9, .int v_10, .int v_11, .int v_12, .int v_13, .int v_14, .int v_15, .ref a_16, .ref a_17, .ref a_18, .ref a_19, .ref a_20, .ref a_21, .ref a_22, .ref a_23, .int v_24, .int v_25, .int v_26, .int v_27, .int v_28, .ref a_29, .int v_30, .ref a_31, .ref a_32, .int v_33, .int v_34, .ref a_35, .int v_36, .ref a_37, .ref a_38, .int v_39, .int v_40, .ref a_41, .ref a_42, .ref a_43, .int v_44, .ref a_45, .ref a_46, .ref a_47, .ref a_48, .ref a_49, .ref a_50, .ref a_51, .ref a_52, .ref a_53, .int v_54, .int v_55, .ref a_56]) := by rw [ef_133, up_ne (kd_ne ka_20 ko0 (by decide))]; exact hfo_125
                      have hfo_135 : f_133 a_18 = .inl (cG, 20, .inr (.inr (.inr (.inr g_119)))) := by rw [ef_133, up_ne (kd_ne ka_20 ka_18 (by decide))]; exact hfo_127
                      have hfr0 : ∀ b, kd b ≠ 581 → kd b ≠ 583 → kd b ≠ 585 → kd b ≠ 587 → f_133 b = f b := fun b q581 q583 q585 q587 => (congrFun ef_133 b).trans ((up_ne (fun e9 => q587 (by rw [e9]; exact ka_20))).trans (hfr0 b q581 q583 q585 q587))
                      have hfo_136 : f_133 a_20 = .inl (cI, 20, .inl g_131) := by rw [ef_133]; exact up_self
                      have ql_137 : x_130 = g_131 (Int32.toNatClampNeg x_129) := by rw [eqg_131, pk_us]
                      refine lv_iload hx hb dX12_asks_323 (lv_at hl 2 rfl) ?_
                      refine lv_if_eq (tgt := 332) hx hb dX12_asks_325 (by decide) (fun c_138 => ?_) (fun c_138 => ?_)
                      · skip
                        rw [← Int32.toInt_inj, ti_0] at c_138
                        refine lv_iconst (v := 0) hx hb dX12_asks_332 (by decide) ?_
                        exact W.zret (v := 0) (ty := .boolean) hx hb hr rfl (fun t ht hW => ⟨⟨0, f_133, rfl, ⟨hG, (by decide), hfr0, (fun b9 g9 h1 h2 => by rw [hfo_134] at h1; obtain rfl := Option.some.inj h1; rw [hfo_136] at h2; cases h2; intro j hj; have hc9 := cl_I (i := x_129) (by omega); rw [eqg_131, show j = Int32.toNatClampNeg x_129 by omega, pk_us]; omega)⟩, by rw [ht]; exact hP, va_K.moved hW.alike hK, pl_in hD⟩, hS.F ht⟩) hS.2.2 dX12_asks_333
                      · skip
                        rw [← Int32.toInt_inj, ti_0] at c_138
                        refine lv_iconst (v := 1) hx hb dX12_asks_328 (by decide) ?_
                        refine lv_goto (tgt := 333) hx hb dX12_asks_329 (by decide) ?_
                        exact W.zret (v := 1) (ty := .boolean) hx hb hr rfl (fun t ht hW => ⟨⟨1, f_133, rfl, ⟨hG, (by decide), hfr0, (fun b9 g9 h1 h2 => by rw [hfo_134] at h1; obtain rfl := Option.some.inj h1; rw [hfo_136] at h2; cases h2; intro j hj; have hc9 := cl_I (i := x_129) (by omega); rw [eqg_131, show j = Int32.toNatClampNeg x_129 by omega, pk_us]; omega)⟩, by rw [ht]; exact hP, va_K.moved hW.alike hK, pl_in hD⟩, hS.F ht⟩) hS.2.2 dX12_asks_333
                    · skip
                      rw [← Int32.toInt_inj, ti_0] at c_116
                      refine lv_iconst (v := 1) hx hb dX12_asks_297 (by decide) ?_
                      exact W.zret (v := 1) (ty := .boolean) hx hb hr rfl (fun t ht hW => ⟨⟨1, f_111, rfl, ⟨hG, (by decide), hfr0, (fun b9 g9 h1 h2 => by rw [hfo_112] at h1; obtain rfl := Option.some.inj h1; rw [hfo_113] at h2; cases h2; intro j hj; have h8 := has0 j hj; omega)⟩, by rw [ht]; exact hP, va_K.moved hW.alike hK, pl_in hD⟩, hS.F ht⟩) hS.2.2 dX12_asks_298
                  · skip
                    rw [← Int32.toInt_inj, ti_0] at c_115
                    refine lv_iload hx hb dX12_asks_281 (lv_at hl 1 rfl) ?_
                    refine lv_if_ne (tgt := 290) hx hb dX12_asks_283 (by decide) (fun c_139 => ?_) (fun c_139 => ?_)
                    · skip
                      rw [← Int32.toInt_inj, ti_0] at c_139
                      refine lv_iconst (v := 0) hx hb dX12_asks_290 (by decide) ?_
                      exact W.zret (v := 0) (ty := .boolean) hx hb hr rfl (fun t ht hW => ⟨⟨0, f_111, rfl, ⟨hG, (by decide), hfr0, (fun b9 g9 h1 h2 => by rw [hfo_112] at h1; obtain rfl := Option.some.inj h1; rw [hfo_113] at h2; cases h2; intro j hj; have h8 := has0 j hj; omega)⟩, by rw [ht]; exact hP, va_K.moved hW.alike hK, pl_in hD⟩, hS.F ht⟩) hS.2.2 dX12_asks_291
                    · skip
                      rw [← Int32.toInt_inj, ti_0] at c_139
                      refine lv_iconst (v := 1) hx hb dX12_asks_286 (by decide) ?_
                      refine lv_goto (tgt := 291) hx hb dX12_asks_287 (by decide) ?_
                      exact W.zret (v := 1) (ty := .boolean) hx hb hr rfl (fun t ht hW => ⟨⟨1, f_111, rfl, ⟨hG, (by decide), hfr0, (fun b9 g9 h1 h2 => by rw [hfo_112] at h1; obtain rfl := Option.some.inj h1; rw [hfo_113] at h2; cases h2; intro j hj; have h8 := has0 j hj; omega)⟩, by rw [ht]; exact hP, va_K.moved hW.alike hK, pl_in hD⟩, hS.F ht⟩) hS.2.2 dX12_asks_291
                · skip
                  rw [Int32.le_iff_toInt_le, ti_3] at c_114
                  refine lv_iconst (v := 3) hx hb dX12_asks_141 (by decide) ?_
                  refine lv_iload_n hx hb dX12_asks_142 rfl (lv_at hl 9 rfl) ?_
                  refine lv_imul hx hb dX12_asks_143 ?_
                  refine lv_topi (fun x_140 ex_140 => ?_)
                  have hx_140 : x_140.toInt = 3 * p1.toInt := by rw [ex_140, ml_I (by rw [ti_3]; omega) (by rw [ti_3]; omega), ti_3]
                  have bx_140 : (0 ≤ x_140.toInt ∧ x_140.toInt ≤ 21) := by constructor <;> omega
                  refine lv_iload hx hb dX12_asks_144 (lv_at hl 0 rfl) ?_
                  refine lv_iadd hx hb dX12_asks_146 ?_
                  refine lv_topi (fun x_141 ex_141 => ?_)
                  have hx_141 : x_141.toInt = x_140.toInt + y_107.toInt := by rw [ex_141, ad_I (by omega) (by omega)]
                  have bx_141 : (0 ≤ x_141.toInt ∧ x_141.toInt ≤ 23) := by constructor <;> omega
                  refine lv_istore (lv' := [(12, .int x_141), (11, .int y_107), (10, .int y_108), (9, .int y_109), (8, .int x_81), (7, .int y_77), (6, .int y_75), (5, .int x_72), (4, .int y_70), (0, .ref o0), (1, .int p1), (2, .int p2), (3, .int p3)]) hx hb dX12_asks_147 hl (by decide) rfl (fun ls hl => ?_)
                  refine lv_iload hx hb dX12_asks_149 (lv_at hl 1 rfl) ?_
                  refine lv_aload_n hx hb dX12_asks_151 rfl (lv_at hl 9 rfl) ?_
                  refine lv_iload_n hx hb dX12_asks_152 rfl (lv_at hl 10 rfl) ?_
                  refine lv_iconst (v := 3) hx hb dX12_asks_153 (by decide) ?_
                  refine tk_ViP (As := [.int p1, .int 3]) (rest := [.int y_107]) (n := 2) hx hb hml hown hU hN hZ (s_X12_ofRule_k12_c3_3 l (dC, dI) cI cL cZ cR cG cH Z kd L f_111 hG o0 mo0 ko0 p1 (by constructor <;> omega)) wd_894 wd_895 wd_896 wd_5 wd_897 (by decide +kernel) ⟨Nat.le_of_ble_eq_true rfl, Nat.le_of_ble_eq_true rfl⟩ hK hP hD hS mo0 hfo_112 12 rfl rfl rfl hl.1 rfl (Nat.le_of_ble_eq_true rfl) dX12_asks_154 ⟨Nat.le_of_ble_eq_true rfl, Nat.le_of_ble_eq_true rfl⟩ (fun x_142 f_143 H locs hw hP hD hS => ?_)
                  obtain ⟨rfl, bx_142⟩ := hw
                  have hcut_147 : ∀ (y_145 : Int32), (0 ≤ y_145.toInt ∧ y_145.toInt ≤ 63) → ∀ (H : Heap) (locs : List Loc), va_P (dC, dI) vwCl (va_pl L f_111) H → va_S (fun q => q ∈ L) s.heap H locs → ∀ (ls : Array Slot), lv_has ls 14 [(12, .int x_141), (11, .int y_107), (10, .int y_108), (9, .int y_109), (8, .int x_81), (7, .int y_77), (6, .int y_75), (5, .int x_72), (4, .int y_70), (0, .ref o0), (1, .int p1), (2, .int p2), (3, .int p3)] → W p l e (headSpec (wU yX12_asks cX12_asks 14 (some .boolean)) { frames := 3, cells := 0, slots := 0, locals := 67 }).room s m [.ref o0, .int p1, .int p2, .int p3].toArray below meth c H locs 0 0 (MQ below (va_Qi (fun (r : Int32) (f9 : Nat → va_E) => GI (okc cI cL cZ cR cG cH L kd) kd L f9 ∧ (0 ≤ r.toInt ∧ r.toInt ≤ 1) ∧ (∀ b, kd b ≠ 581 → kd b ≠ 583 → kd b ≠ 585 → kd b ≠ 587 → f9 b = f b) ∧ (∀ b9 g9, fldR (f9 o0) 19 = some b9 → f9 b9 = .inl (cI, 20, .inl g9) → ∀ j : Nat, (j : Int) = p2.toInt + 1 → (g9 j).toInt ≤ 8 * p2.toInt + p1.toInt + 1)) (qP (dC, dI) cI cL cZ cR cG cH L) (fun q => q ∈ L)) [.ref o0, .int p1, .int p2, .int p3].toArray s 0 0 (fun q => q ∈ L)) (F0 m 191 ls [.int y_145]) := by
                    intro y_145 by_145 H locs hP hS ls hl
                    refine lv_istore (lv' := [(13, .int y_145), (12, .int x_141), (11, .int y_107), (10, .int y_108), (9, .int y_109), (8, .int x_81), (7, .int y_77), (6, .int y_75), (5, .int x_72), (4, .int y_70), (0, .ref o0), (1, .int p1), (2, .int p2), (3, .int p3)]) hx hb dX12_asks_191 hl (by decide) rfl (fun ls hl => ?_)
                    refine lv_iload hx hb dX12_asks_193 (lv_at hl 7 rfl) ?_
                    refine lv_if_eq (tgt := 219) hx hb dX12_asks_195 (by decide) (fun c_148 => ?_) (fun c_148 => ?_)
                    · skip
                      rw [← Int32.toInt_inj, ti_0] at c_148
                      exfalso
                      omega
                    · skip
                      rw [← Int32.toInt_inj, ti_0] at c_148
                      refine lv_aload_n hx hb dX12_asks_198 rfl (lv_at hl 10 rfl) ?_
                      refine tk_getP (D := (dC, dI)) (ci := 12) (v := .ref a_19) (C := RX12) (T := TX12) (N := 56) hx hb hU inlX12 hown hK hP mo0 hfo_112 rfl 18 (by decide) (hU _ wd_178) (fun _ h9 => h9) rfl dX12_asks_199 ?_
                      refine lv_iload_n hx hb dX12_asks_202 rfl (lv_at hl 12 rfl) ?_
                      refine lv_iconst (v := 1) hx hb dX12_asks_203 (by decide) ?_
                      refine lv_iadd hx hb dX12_asks_204 ?_
                      refine lv_topi (fun x_149 ex_149 => ?_)
                      have hx_149 : x_149.toInt = p2.toInt + 1 := by rw [ex_149, ad_I (by rw [ti_1]; omega) (by rw [ti_1]; omega), ti_1]
                      have bx_149 : (1 ≤ x_149.toInt ∧ x_149.toInt ≤ 14) := by constructor <;> omega
                      obtain ⟨g_151, hfo_150, hbg_151⟩ := un_586 (hG _ ma_19) ka_19
                      obtain ⟨a_152, hga_152, ma_152, ka_152⟩ := hbg_151 (Int32.toNatClampNeg x_149) (in_lt (vp_in_iff.mpr (by constructor <;> omega)))
                      refine tk_aldA hx hb hK hP 4 ma_19 hfo_150 rfl (vp_in_iff.mpr (by constructor <;> omega)) hga_152 dX12_asks_205 ?_
                      refine lv_iconst (v := 3) hx hb dX12_asks_206 (by decide) ?_
                      refine lv_iload hx hb dX12_asks_207 (lv_at hl 5 rfl) ?_
                      refine lv_imul hx hb dX12_asks_209 ?_
                      refine lv_topi (fun x_153 ex_153 => ?_)
                      have hx_153 : x_153.toInt = 3 * x_81.toInt := by rw [ex_153, ml_I (by rw [ti_3]; omega) (by rw [ti_3]; omega), ti_3]
                      have bx_153 : (0 ≤ x_153.toInt ∧ x_153.toInt ≤ 333) := by constructor <;> omega
                      refine lv_iload hx hb dX12_asks_210 (lv_at hl 2 rfl) ?_
                      refine lv_iadd hx hb dX12_asks_212 ?_
                      refine lv_topi (fun x_154 ex_154 => ?_)
                      have hx_154 : x_154.toInt = x_153.toInt + y_107.toInt := by rw [ex_154, ad_I (by omega) (by omega)]
                      have bx_154 : (0 ≤ x_154.toInt ∧ x_154.toInt ≤ 335) := by constructor <;> omega
                      refine lv_iload hx hb dX12_asks_213 (lv_at hl 0 rfl) ?_
                      obtain ⟨g_156, hfo_155, hbg_156⟩ := un_585 (hG _ ma_152) ka_152
                      refine tk_istP hx hb hK hP hD hS 0 ma_152 hfo_155 rfl (vp_in_iff.mpr (by constructor <;> omega)) dX12_asks_215 (fun H locs hP hD hS => ?_)
                      obtain ⟨f_158, ef_158⟩ : ∃ y : Nat → va_E, y = va_up f_111 a_152 (.inl (cI, 480, .inl (upd g_156 (Int32.toNatClampNeg x_154) y_145))) := ⟨_, rfl⟩
                      have hP : va_P (dC, dI) vwCl (va_pl L f_158) H := by rw [ef_158]; exact hP
                      have hD : va_D (fun q => q ∈ L) (va_pl L f_158) := by rw [ef_158]; exact hD
                      have hG : GI (okc cI cL cZ cR cG cH L kd) kd L f_158 := by rw [ef_158]; exact hG.set a_152 (mk_585 ka_152 ⟨_, rfl, okI_up hbg_156 ⟨i32_lo _, i32_hi _⟩ _⟩)
                      have hfo_159 : f_158 o0 = .inr (12, [.ref a_1, .ref a_2, .ref a_3, .int v_4, .ref a_5, .int v_6, .int v_7, .int v_8, .int v_9, .int v_10, .int v_11, .int v_12, .int v_13, .int v_14, .int v_15, .ref a_16, .ref a_17, .ref a_18, .ref a_19, .ref a_20, .ref a_21, .ref a_22, .ref a_23, .int v_24, .int v_25, .int v_26, .int v_27, .int v_28, .ref a_29, .int v_30, .ref a_31, .ref a_32, .int v_33, .int v_34, .ref a_35, .int v_36, .ref a_37, .ref a_38, .int v_39, .int v_40, .ref a_41, .ref a_42, .ref a_43, .int v_44, .ref a_45, .ref a_46, .ref a_47, .ref a_48, .ref a_49, .ref a_50, .ref a_51, .ref a_52, .ref a_53, .int v_54, .int v_55, .ref a_56]) := by rw [ef_158, up_ne (kd_ne ka_152 ko0 (by decide))]; exact hfo_112
                      have hfo_160 : f_158 a_20 = .inl (cI, 20, .inl g_60) := by rw [ef_158, up_ne (kd_ne ka_152 ka_20 (by decide))]; exact hfo_113
                      have hfo_161 : f_158 a_19 = .inl (cG, 20, .inr (.inr (.inr (.inr g_151)))) := by rw [ef_158, up_ne (kd_ne ka_152 ka_19 (by decide))]; exact hfo_150
                      have hfr0 : ∀ b, kd b ≠ 581 → kd b ≠ 583 → kd b ≠ 585 → kd b ≠ 587 → f_158 b = f b := fun b q581 q583 q585 q587 => (congrFun ef_158 b).trans ((up_ne (fun e9 => q585 (by rw [e9]; exact ka_152))).trans (hfr0 b q581 q583 q585 q587))
                      have hfo_162 : f_158 a_152 = .inl (cI, 480, .inl (upd g_156 (Int32.toNatClampNeg x_154) y_145)) := by rw [ef_158]; exact up_self
                      refine lv_goto (tgt := 235) hx hb dX12_asks_216 (by decide) ?_
                      refine lv_iload hx hb dX12_asks_235 (lv_at hl 4 rfl) ?_
                      refine lv_iload hx hb dX12_asks_237 (lv_at hl 0 rfl) ?_
                      refine lv_ior hx hb dX12_asks_239 ?_
                      refine lv_topi (fun x_163 ex_163 => ?_)
                      have bx_163 : ((-2147483648) ≤ x_163.toInt ∧ x_163.toInt ≤ 2147483647) := ⟨i32_lo _, i32_hi _⟩
                      refine lv_istore (lv' := [(9, .int x_163), (13, .int y_145), (12, .int x_141), (11, .int y_107), (10, .int y_108), (8, .int x_81), (7, .int y_77), (6, .int y_75), (5, .int x_72), (4, .int y_70), (0, .ref o0), (1, .int p1), (2, .int p2), (3, .int p3)]) hx hb dX12_asks_240 hl (by decide) rfl (fun ls hl => ?_)
                      refine lv_iload hx hb dX12_asks_242 (lv_at hl 4 rfl) ?_
                      have hcut_166 : ∀ (y_164 : Int32), (0 ≤ y_164.toInt ∧ y_164.toInt ≤ 1) → ∀ (H : Heap) (locs : List Loc), va_P (dC, dI) vwCl (va_pl L f_158) H → va_S (fun q => q ∈ L) s.heap H locs → ∀ (ls : Array Slot), lv_has ls 14 [(9, .int x_163), (13, .int y_145), (12, .int x_141), (11, .int y_107), (10, .int y_108), (8, .int x_81), (7, .int y_77), (6, .int y_75), (5, .int x_72), (4, .int y_70), (0, .ref o0), (1, .int p1), (2, .int p2), (3, .int p3)] → W p l e (headSpec (wU yX12_asks cX12_asks 14 (some .boolean)) { frames := 3, cells := 0, slots := 0, locals := 67 }).room s m [.ref o0, .int p1, .int p2, .int p3].toArray below meth c H locs 0 0 (MQ below (va_Qi (fun (r : Int32) (f9 : Nat → va_E) => GI (okc cI cL cZ cR cG cH L kd) kd L f9 ∧ (0 ≤ r.toInt ∧ r.toInt ≤ 1) ∧ (∀ b, kd b ≠ 581 → kd b ≠ 583 → kd b ≠ 585 → kd b ≠ 587 → f9 b = f b) ∧ (∀ b9 g9, fldR (f9 o0) 19 = some b9 → f9 b9 = .inl (cI, 20, .inl g9) → ∀ j : Nat, (j : Int) = p2.toInt + 1 → (g9 j).toInt ≤ 8 * p2.toInt + p1.toInt + 1)) (qP (dC, dI) cI cL cZ cR cG cH L) (fun q => q ∈ L)) [.ref o0, .int p1, .int p2, .int p3].toArray s 0 0 (fun q => q ∈ L)) (F0 m 268 ls [.int y_164]) := by
                        intro y_164 by_164 H locs hP hS ls hl
                        refine lv_istore (lv' := [(10, .int y_164), (9, .int x_163), (13, .int y_145), (12, .int x_141), (11, .int y_107), (8, .int x_81), (7, .int y_77), (6, .int y_75), (5, .int x_72), (4, .int y_70), (0, .ref o0), (1, .int p1), (2, .int p2), (3, .int p3)]) hx hb dX12_asks_268 hl (by decide) rfl (fun ls hl => ?_)
                        obtain ⟨x_167, ex_167⟩ : ∃ y : Int32, y_107 + 1 = y := ⟨_, rfl⟩
                        have hx_167 : x_167.toInt = y_107.toInt + 1 := by rw [← ex_167, ad_I (by rw [ti_1]; omega) (by rw [ti_1]; omega), ti_1]
                        have bx_167 : (1 ≤ x_167.toInt ∧ x_167.toInt ≤ 3) := by constructor <;> omega
                        refine lv_iinc (v := x_167) (lv' := [(11, .int x_167), (10, .int y_164), (9, .int x_163), (13, .int y_145), (12, .int x_141), (8, .int x_81), (7, .int y_77), (6, .int y_75), (5, .int x_72), (4, .int y_70), (0, .ref o0), (1, .int p1), (2, .int p2), (3, .int p3)]) hx hb dX12_asks_270 hl (k := 4) rfl ex_167 (by decide) rfl (fun ls hl => ?_)
                        refine lv_goto (tgt := 135) hx hb dX12_asks_273 (by decide) ?_
                        exact ih_hloop_106 x_167 (by constructor <;> omega) y_164 (by constructor <;> omega) x_163 (by constructor <;> omega) f_158 hG _ _ hP hS hD hfr0 hfo_159 hfo_160 (by omega) ls (lv_sub hl [0, 1, 2, 5, 6, 7, 8, 9, 10, 11, 12, 13] rfl)
                      refine lv_if_ne (tgt := 263) hx hb dX12_asks_244 (by decide) (fun c_168 => ?_) (fun c_168 => ?_)
                      · skip
                        rw [← Int32.toInt_inj, ti_0] at c_168
                        refine lv_iconst (v := 1) hx hb dX12_asks_263 (by decide) ?_
                        refine lv_goto (tgt := 268) hx hb dX12_asks_264 (by decide) ?_
                        exact hcut_166 1 (by decide) _ _ hP hS ls (lv_sub hl [0, 1, 2, 3, 4, 5, 6, 7, 8, 9, 10, 11, 12, 13] rfl)
                      · skip
                        rw [← Int32.toInt_inj, ti_0] at c_168
                        refine lv_iload hx hb dX12_asks_247 (lv_at hl 1 rfl) ?_
                        refine lv_if_eq (tgt := 267) hx hb dX12_asks_249 (by decide) (fun c_169 => ?_) (fun c_169 => ?_)
                        · skip
                          rw [← Int32.toInt_inj, ti_0] at c_169
                          refine lv_iconst (v := 0) hx hb dX12_asks_267 (by decide) ?_
                          exact hcut_166 0 (by decide) _ _ hP hS ls (lv_sub hl [0, 1, 2, 3, 4, 5, 6, 7, 8, 9, 10, 11, 12, 13] rfl)
                        · skip
                          rw [← Int32.toInt_inj, ti_0] at c_169
                          refine lv_aload_n hx hb dX12_asks_252 rfl (lv_at hl 10 rfl) ?_
                          refine lv_iload hx hb dX12_asks_253 (lv_at hl 2 rfl) ?_
                          refine lv_iload hx hb dX12_asks_255 (lv_at hl 1 rfl) ?_
                          refine tk_ViP (As := [.int x_141, .int y_145]) (rest := []) (n := 2) hx hb hml hown hU hN hZ (s_X12_isMet_k12 l (dC, dI) cI cL cZ cR cG cH Z kd L f_158 hG o0 mo0 ko0 x_141 (by constructor <;> omega) y_145) wd_954 wd_955 wd_956 wd_5 wd_957 (by decide +kernel) ⟨Nat.le_of_ble_eq_true rfl, Nat.le_of_ble_eq_true rfl⟩ hK hP hD hS mo0 hfo_159 12 rfl rfl rfl hl.1 rfl (Nat.le_of_ble_eq_true rfl) dX12_asks_257 ⟨Nat.le_of_ble_eq_true rfl, Nat.le_of_ble_eq_true rfl⟩ (fun x_170 f_171 H locs hw hP hD hS => ?_)
                          obtain ⟨rfl, bx_170⟩ := hw
                          refine lv_if_eq (tgt := 267) hx hb dX12_asks_260 (by decide) (fun c_173 => ?_) (fun c_173 => ?_)
                          · skip
                            rw [← Int32.toInt_inj, ti_0] at c_173
                            refine lv_iconst (v := 0) hx hb dX12_asks_267 (by decide) ?_
                            exact hcut_166 0 (by decide) _ _ hP hS ls (lv_sub hl [0, 1, 2, 3, 4, 5, 6, 7, 8, 9, 10, 11, 12, 13] rfl)
                          · skip
                            rw [← Int32.toInt_inj, ti_0] at c_173
                            refine lv_iconst (v := 1) hx hb dX12_asks_263 (by decide) ?_
                            refine lv_goto (tgt := 268) hx hb dX12_asks_264 (by decide) ?_
                            exact hcut_166 1 (by decide) _ _ hP hS ls (lv_sub hl [0, 1, 2, 3, 4, 5, 6, 7, 8, 9, 10, 11, 12, 13] rfl)
                  refine lv_icmp_ge (tgt := 190) hx hb dX12_asks_157 (by decide) (fun c_174 => ?_) (fun c_174 => ?_)
                  · skip
                    rw [Int32.le_iff_toInt_le] at c_174
                    refine lv_iconst (v := 0) hx hb dX12_asks_190 (by decide) ?_
                    exact hcut_147 0 (by decide) _ _ hP hS ls (lv_sub hl [0, 1, 2, 3, 4, 5, 6, 7, 8, 9, 10, 11, 12] rfl)
                  · skip
                    rw [Int32.le_iff_toInt_le] at c_174
                    refine lv_aload_n hx hb dX12_asks_160 rfl (lv_at hl 9 rfl) ?_
                    refine lv_iload hx hb dX12_asks_161 (lv_at hl 0 rfl) ?_
                    refine lv_iconst (v := 0) hx hb dX12_asks_163 (by decide) ?_
                    refine lv_aload_n hx hb dX12_asks_164 rfl (lv_at hl 9 rfl) ?_
                    refine tk_getP (D := (dC, dI)) (ci := 12) (v := .ref a_16) (C := RX12) (T := TX12) (N := 56) hx hb hU inlX12 hown hK hP mo0 hfo_112 rfl 15 (by decide) (hU _ wd_175) (fun _ h9 => h9) rfl dX12_asks_165 ?_
                    refine lv_iload_n hx hb dX12_asks_168 rfl (lv_at hl 11 rfl) ?_
                    obtain ⟨g_176, hfo_175, hbg_176⟩ := un_580 (hG _ ma_16) ka_16
                    obtain ⟨a_177, hga_177, ma_177, ka_177⟩ := hbg_176 (Int32.toNatClampNeg p2) (in_lt (vp_in_iff.mpr (by constructor <;> omega)))
                    refine tk_aldA hx hb hK hP 4 ma_16 hfo_175 rfl (vp_in_iff.mpr (by constructor <;> omega)) hga_177 dX12_asks_169 ?_
                    refine lv_iload hx hb dX12_asks_170 (lv_at hl 0 rfl) ?_
                    obtain ⟨g_179, hfo_178, hbg_179⟩ := un_579 (hG _ ma_177) ka_177
                    refine tk_ildP hx hb hK hP 0 ma_177 hfo_178 rfl (vp_in_iff.mpr (by constructor <;> omega)) dX12_asks_172 ?_
                    refine lv_topi (fun x_180 ex_180 => ?_)
                    have bx_180 : ((-2147483648) ≤ x_180.toInt ∧ x_180.toInt ≤ 2147483647) := ⟨i32_lo _, i32_hi _⟩
                    refine tk_ViP (As := [.int x_141, .int 0, .int x_180]) (rest := []) (n := 3) hx hb hml hown hU hN hZ (s_X12_isDone_k12 l (dC, dI) cI cL cZ cR cG cH Z kd L f_111 hG o0 mo0 ko0 x_141 (by constructor <;> omega) 0 (by decide) x_180) wd_898 wd_899 wd_900 wd_5 wd_901 (by decide +kernel) ⟨Nat.le_of_ble_eq_true rfl, Nat.le_of_ble_eq_true rfl⟩ hK hP hD hS mo0 hfo_112 12 rfl rfl rfl hl.1 rfl (Nat.le_of_ble_eq_true rfl) dX12_asks_173 ⟨Nat.le_of_ble_eq_true rfl, Nat.le_of_ble_eq_true rfl⟩ (fun x_181 f_182 H locs hw hP hD hS => ?_)
                    obtain ⟨rfl, bx_181⟩ := hw
                    refine lv_if_eq (tgt := 190) hx hb dX12_asks_176 (by decide) (fun c_184 => ?_) (fun c_184 => ?_)
                    · skip
                      rw [← Int32.toInt_inj, ti_0] at c_184
                      refine lv_iconst (v := 0) hx hb dX12_asks_190 (by decide) ?_
                      exact hcut_147 0 (by decide) _ _ hP hS ls (lv_sub hl [0, 1, 2, 3, 4, 5, 6, 7, 8, 9, 10, 11, 12] rfl)
                    · skip
                      rw [← Int32.toInt_inj, ti_0] at c_184
                      refine lv_aload_n hx hb dX12_asks_179 rfl (lv_at hl 9 rfl) ?_
                      refine lv_iload hx hb dX12_asks_180 (lv_at hl 0 rfl) ?_
                      refine lv_iconst (v := 1) hx hb dX12_asks_182 (by decide) ?_
                      refine lv_iconst (v := 1) hx hb dX12_asks_183 (by decide) ?_
                      refine tk_ViP (As := [.int x_141, .int 1, .int 1]) (rest := []) (n := 3) hx hb hml hown hU hN hZ (s_X12_closed_k12 l (dC, dI) cI cL cZ cR cG cH Z kd L f_111 hG o0 mo0 ko0 x_141 (by constructor <;> omega) 1 (by decide) 1 (by decide)) wd_878 wd_879 wd_880 wd_5 wd_881 (by decide +kernel) ⟨Nat.le_of_ble_eq_true rfl, Nat.le_of_ble_eq_true rfl⟩ hK hP hD hS mo0 hfo_112 12 rfl rfl rfl hl.1 rfl (Nat.le_of_ble_eq_true rfl) dX12_asks_184 ⟨Nat.le_of_ble_eq_true rfl, Nat.le_of_ble_eq_true rfl⟩ (fun x_185 f_186 H locs hw hP hD hS => ?_)
                      obtain ⟨rfl, bx_185⟩ := hw
                      refine lv_goto (tgt := 191) hx hb dX12_asks_187 (by decide) ?_
                      exact hcut_147 x_185 (by constructor <;> omega) _ _ hP hS ls (lv_sub hl [0, 1, 2, 3, 4, 5, 6, 7, 8, 9, 10, 11, 12] rfl)
            exact hloop_106 4 0 (by decide) 0 (by decide) 0 (by decide) f hG _ _ hP hS hD hfr0 hfo_57 hfo_59 (by (try rw [ti_0]) <;> omega) ls hl
          · skip
            rw [← Int32.toInt_inj, ti_0] at c_79
            refine lv_iload hx hb dX12_asks_109 (lv_at hl 0 rfl) ?_
            refine lv_if_ne (tgt := 116) hx hb dX12_asks_111 (by decide) (fun c_188 => ?_) (fun c_188 => ?_)
            · skip
              rw [← Int32.toInt_inj, ti_0] at c_188
              refine lv_aload_n hx hb dX12_asks_116 rfl (lv_at hl 4 rfl) ?_
              refine tk_getP (D := (dC, dI)) (ci := 12) (v := .ref a_20) (C := RX12) (T := TX12) (N := 56) hx hb hU inlX12 hown hK hP mo0 hfo_57 rfl 19 (by decide) (hU _ wd_179) (fun _ h9 => h9) rfl dX12_asks_117 ?_
              refine lv_iload_n hx hb dX12_asks_120 rfl (lv_at hl 6 rfl) ?_
              refine lv_iconst (v := 1) hx hb dX12_asks_121 (by decide) ?_
              refine lv_iadd hx hb dX12_asks_122 ?_
              refine lv_topi (fun x_189 ex_189 => ?_)
              have hx_189 : x_189.toInt = p2.toInt + 1 := by rw [ex_189, ad_I (by rw [ti_1]; omega) (by rw [ti_1]; omega), ti_1]
              have bx_189 : (1 ≤ x_189.toInt ∧ x_189.toInt ≤ 14) := by constructor <;> omega
              refine tk_ildP hx hb hK hP 0 ma_20 hfo_59 rfl (vp_in_iff.mpr (by constructor <;> omega)) dX12_asks_123 ?_
              refine lv_topi (fun x_190 ex_190 => ?_)
              have hx_190 : 0 ≤ x_190.toInt ∧ x_190.toInt ≤ 8 * x_189.toInt := by have hc9 := cl_I (i := x_189) (by omega); have h8 := hbg_60 (Int32.toNatClampNeg x_189); rw [ex_190]; constructor <;> omega
              have bx_190 : (0 ≤ x_190.toInt ∧ x_190.toInt ≤ 112) := by constructor <;> omega
              have has1 : x_190.toInt ≤ 8 * p2.toInt + p1.toInt := by have hc9 := cl_I (i := x_189) (by omega); rw [ex_190]; exact has0 _ (by omega)
              refine lv_istore (lv' := [(8, .int x_190), (7, .int y_77), (6, .int y_75), (5, .int x_72), (4, .int y_70), (0, .ref o0), (1, .int p1), (2, .int p2), (3, .int p3)]) hx hb dX12_asks_124 hl (by decide) rfl (fun ls hl => ?_)
              refine lv_iconst (v := 0) hx hb dX12_asks_126 (by decide) ?_
              refine lv_istore (lv' := [(9, .int 0), (8, .int x_190), (7, .int y_77), (6, .int y_75), (5, .int x_72), (4, .int y_70), (0, .ref o0), (1, .int p1), (2, .int p2), (3, .int p3)]) hx hb dX12_asks_127 hl (by decide) rfl (fun ls hl => ?_)
              refine lv_iconst (v := 0) hx hb dX12_asks_129 (by decide) ?_
              refine lv_istore (lv' := [(10, .int 0), (9, .int 0), (8, .int x_190), (7, .int y_77), (6, .int y_75), (5, .int x_72), (4, .int y_70), (0, .ref o0), (1, .int p1), (2, .int p2), (3, .int p3)]) hx hb dX12_asks_130 hl (by decide) rfl (fun ls hl => ?_)
              refine lv_iconst (v := 0) hx hb dX12_asks_132 (by decide) ?_
              refine lv_istore (lv' := [(11, .int 0), (10, .int 0), (9, .int 0), (8, .int x_190), (7, .int y_77), (6, .int y_75), (5, .int x_72), (4, .int y_70), (0, .ref o0), (1, .int p1), (2, .int p2), (3, .int p3)]) hx hb dX12_asks_133 hl (by decide) rfl (fun ls hl => ?_)
              have hloop_215 : ∀ (n : Nat), ∀ (y_216 : Int32), (0 ≤ y_216.toInt ∧ y_216.toInt ≤ 3) → ∀ (y_217 : Int32), (0 ≤ y_217.toInt ∧ y_217.toInt ≤ 1) → ∀ (y_218 : Int32), ((-2147483648) ≤ y_218.toInt ∧ y_218.toInt ≤ 2147483647) → ∀ (f_220 : Nat → va_E), GI (okc cI cL cZ cR cG cH L kd) kd L f_220 → ∀ (H : Heap) (locs : List Loc), va_P (dC, dI) vwCl (va_pl L f_220) H → va_S (fun q => q ∈ L) s.heap H locs → va_D (fun q => q ∈ L) (va_pl L f_220) → (∀ b, kd b ≠ 581 → kd b ≠ 583 → kd b ≠ 585 → kd b ≠ 587 → f_220 b = f b) → (f_220 o0 = .inr (12, [.ref a_1, .ref a_2, .ref a_3, .int v_4, .ref a_5, .int v_6, .int v_7, .int v_8, .int v_9, .int v_10, .int v_11, .int v_12, .int v_13, .int v_14, .int v_15, .ref a_16, .ref a_17, .ref a_18, .ref a_19, .ref a_20, .ref a_21, .ref a_22, .ref a_23, .int v_24, .int v_25, .int v_26, .int v_27, .int v_28, .ref a_29, .int v_30, .ref a_31, .ref a_32, .int v_33, .int v_34, .ref a_35, .int v_36, .ref a_37, .ref a_38, .int v_39, .int v_40, .ref a_41, .ref a_42, .ref a_43, .int v_44, .ref a_45, .ref a_46, .ref a_47, .ref a_48, .ref a_49, .ref a_50, .ref a_51, .ref a_52, .ref a_53, .int v_54, .int v_55, .ref a_56])) → (f_220 a_20 = .inl (cI, 20, .inl g_60)) → 3 - y_216.toInt < (n : Int) → ∀ (ls : Array Slot), lv_has ls 14 [(11, .int y_216), (10, .int y_217), (9, .int y_218), (8, .int x_190), (7, .int y_77), (6, .int y_75), (5, .int x_72), (4, .int y_70), (0, .ref o0), (1, .int p1), (2, .int p2), (3, .int p3)] → W p l e (headSpec (wU yX12_asks cX12_asks 14 (some .boolean)) { frames := 3, cells := 0, slots := 0, locals := 67 }).room s m [.ref o0, .int p1, .int p2, .int p3].toArray below meth c H locs 0 0 (MQ below (va_Qi (fun (r : Int32) (f9 : Nat → va_E) => GI (okc cI cL cZ cR cG cH L kd) kd L f9 ∧ (0 ≤ r.toInt ∧ r.toInt ≤ 1) ∧ (∀ b, kd b ≠ 581 → kd b ≠ 583 → kd b ≠ 585 → kd b ≠ 587 → f9 b = f b) ∧ (∀ b9 g9, fldR (f9 o0) 19 = some b9 → f9 b9 = .inl (cI, 20, .inl g9) → ∀ j : Nat, (j : Int) = p2.toInt + 1 → (g9 j).toInt ≤ 8 * p2.toInt + p1.toInt + 1)) (qP (dC, dI) cI cL cZ cR cG cH L) (fun q => q ∈ L)) [.ref o0, .int p1, .int p2, .int p3].toArray s 0 0 (fun q => q ∈ L)) (F0 m 135 ls []) := by
                intro n
                induction n with
                | zero => intro y_216 by_216 y_217 by_217 y_218 by_218 f_220 hG H locs hP hS hD hfr0 hfo_221 hfo_222 hmuhloop_215 ls hl; exfalso; omega
                | succ n ih_hloop_215 =>
                  intro y_216 by_216 y_217 by_217 y_218 by_218 f_220 hG H locs hP hS hD hfr0 hfo_221 hfo_222 hmuhloop_215 ls hl
                  refine lv_iload hx hb dX12_asks_135 (lv_at hl 0 rfl) ?_
                  refine lv_iconst (v := 3) hx hb dX12_asks_137 (by decide) ?_
                  refine lv_icmp_ge (tgt := 276) hx hb dX12_asks_138 (by decide) (fun c_223 => ?_) (fun c_223 => ?_)
                  · skip
                    rw [Int32.le_iff_toInt_le, ti_3] at c_223
                    refine lv_iload hx hb dX12_asks_276 (lv_at hl 4 rfl) ?_
                    refine lv_if_eq (tgt := 292) hx hb dX12_asks_278 (by decide) (fun c_224 => ?_) (fun c_224 => ?_)
                    · skip
                      rw [← Int32.toInt_inj, ti_0] at c_224
                      exfalso
                      omega
                    · skip
                      rw [← Int32.toInt_inj, ti_0] at c_224
                      refine lv_iload hx hb dX12_asks_281 (lv_at hl 1 rfl) ?_
                      refine lv_if_ne (tgt := 290) hx hb dX12_asks_283 (by decide) (fun c_225 => ?_) (fun c_225 => ?_)
                      · skip
                        rw [← Int32.toInt_inj, ti_0] at c_225
                        refine lv_iconst (v := 0) hx hb dX12_asks_290 (by decide) ?_
                        exact W.zret (v := 0) (ty := .boolean) hx hb hr rfl (fun t ht hW => ⟨⟨0, f_220, rfl, ⟨hG, (by decide), hfr0, (fun b9 g9 h1 h2 => by rw [hfo_221] at h1; obtain rfl := Option.some.inj h1; rw [hfo_222] at h2; cases h2; intro j hj; have h8 := has0 j hj; omega)⟩, by rw [ht]; exact hP, va_K.moved hW.alike hK, pl_in hD⟩, hS.F ht⟩) hS.2.2 dX12_asks_291
                      · skip
                        rw [← Int32.toInt_inj, ti_0] at c_225
                        refine lv_iconst (v := 1) hx hb dX12_asks_286 (by decide) ?_
                        refine lv_goto (tgt := 291) hx hb dX12_asks_287 (by decide) ?_
                        exact W.zret (v := 1) (ty := .boolean) hx hb hr rfl (fun t ht hW => ⟨⟨1, f_220, rfl, ⟨hG, (by decide), hfr0, (fun b9 g9 h1 h2 => by rw [hfo_221] at h1; obtain rfl := Option.some.inj h1; rw [hfo_222] at h2; cases h2; intro j hj; have h8 := has0 j hj; omega)⟩, by rw [ht]; exact hP, va_K.moved hW.alike hK, pl_in hD⟩, hS.F ht⟩) hS.2.2 dX12_asks_291
                  · skip
                    rw [Int32.le_iff_toInt_le, ti_3] at c_223
                    refine lv_iconst (v := 3) hx hb dX12_asks_141 (by decide) ?_
                    refine lv_iload_n hx hb dX12_asks_142 rfl (lv_at hl 9 rfl) ?_
                    refine lv_imul hx hb dX12_asks_143 ?_
                    refine lv_topi (fun x_226 ex_226 => ?_)
                    have hx_226 : x_226.toInt = 3 * p1.toInt := by rw [ex_226, ml_I (by rw [ti_3]; omega) (by rw [ti_3]; omega), ti_3]
                    have bx_226 : (0 ≤ x_226.toInt ∧ x_226.toInt ≤ 21) := by constructor <;> omega
                    refine lv_iload hx hb dX12_asks_144 (lv_at hl 0 rfl) ?_
                    refine lv_iadd hx hb dX12_asks_146 ?_
                    refine lv_topi (fun x_227 ex_227 => ?_)
                    have hx_227 : x_227.toInt = x_226.toInt + y_216.toInt := by rw [ex_227, ad_I (by omega) (by omega)]
                    have bx_227 : (0 ≤ x_227.toInt ∧ x_227.toInt ≤ 23) := by constructor <;> omega
                    refine lv_istore (lv' := [(12, .int x_227), (11, .int y_216), (10, .int y_217), (9, .int y_218), (8, .int x_190), (7, .int y_77), (6, .int y_75), (5, .int x_72), (4, .int y_70), (0, .ref o0), (1, .int p1), (2, .int p2), (3, .int p3)]) hx hb dX12_asks_147 hl (by decide) rfl (fun ls hl => ?_)
                    refine lv_iload hx hb dX12_asks_149 (lv_at hl 1 rfl) ?_
                    refine lv_aload_n hx hb dX12_asks_151 rfl (lv_at hl 9 rfl) ?_
                    refine lv_iload_n hx hb dX12_asks_152 rfl (lv_at hl 10 rfl) ?_
                    refine lv_iconst (v := 3) hx hb dX12_asks_153 (by decide) ?_
                    refine tk_ViP (As := [.int p1, .int 3]) (rest := [.int y_216]) (n := 2) hx hb hml hown hU hN hZ (s_X12_ofRule_k12_c3_3 l (dC, dI) cI cL cZ cR cG cH Z kd L f_220 hG o0 mo0 ko0 p1 (by constructor <;> omega)) wd_894 wd_895 wd_896 wd_5 wd_897 (by decide +kernel) ⟨Nat.le_of_ble_eq_true rfl, Nat.le_of_ble_eq_true rfl⟩ hK hP hD hS mo0 hfo_221 12 rfl rfl rfl hl.1 rfl (Nat.le_of_ble_eq_true rfl) dX12_asks_154 ⟨Nat.le_of_ble_eq_true rfl, Nat.le_of_ble_eq_true rfl⟩ (fun x_228 f_229 H locs hw hP hD hS => ?_)
                    obtain ⟨rfl, bx_228⟩ := hw
                    have hcut_233 : ∀ (y_231 : Int32), (0 ≤ y_231.toInt ∧ y_231.toInt ≤ 63) → ∀ (H : Heap) (locs : List Loc), va_P (dC, dI) vwCl (va_pl L f_220) H → va_S (fun q => q ∈ L) s.heap H locs → ∀ (ls : Array Slot), lv_has ls 14 [(12, .int x_227), (11, .int y_216), (10, .int y_217), (9, .int y_218), (8, .int x_190), (7, .int y_77), (6, .int y_75), (5, .int x_72), (4, .int y_70), (0, .ref o0), (1, .int p1), (2, .int p2), (3, .int p3)] → W p l e (headSpec (wU yX12_asks cX12_asks 14 (some .boolean)) { frames := 3, cells := 0, slots := 0, locals := 67 }).room s m [.ref o0, .int p1, .int p2, .int p3].toArray below meth c H locs 0 0 (MQ below (va_Qi (fun (r : Int32) (f9 : Nat → va_E) => GI (okc cI cL cZ cR cG cH L kd) kd L f9 ∧ (0 ≤ r.toInt ∧ r.toInt ≤ 1) ∧ (∀ b, kd b ≠ 581 → kd b ≠ 583 → kd b ≠ 585 → kd b ≠ 587 → f9 b = f b) ∧ (∀ b9 g9, fldR (f9 o0) 19 = some b9 → f9 b9 = .inl (cI, 20, .inl g9) → ∀ j : Nat, (j : Int) = p2.toInt + 1 → (g9 j).toInt ≤ 8 * p2.toInt + p1.toInt + 1)) (qP (dC, dI) cI cL cZ cR cG cH L) (fun q => q ∈ L)) [.ref o0, .int p1, .int p2, .int p3].toArray s 0 0 (fun q => q ∈ L)) (F0 m 191 ls [.int y_231]) := by
                      intro y_231 by_231 H locs hP hS ls hl
                      refine lv_istore (lv' := [(13, .int y_231), (12, .int x_227), (11, .int y_216), (10, .int y_217), (9, .int y_218), (8, .int x_190), (7, .int y_77), (6, .int y_75), (5, .int x_72), (4, .int y_70), (0, .ref o0), (1, .int p1), (2, .int p2), (3, .int p3)]) hx hb dX12_asks_191 hl (by decide) rfl (fun ls hl => ?_)
                      refine lv_iload hx hb dX12_asks_193 (lv_at hl 7 rfl) ?_
                      refine lv_if_eq (tgt := 219) hx hb dX12_asks_195 (by decide) (fun c_234 => ?_) (fun c_234 => ?_)
                      · skip
                        rw [← Int32.toInt_inj, ti_0] at c_234
                        refine lv_aload_n hx hb dX12_asks_219 rfl (lv_at hl 10 rfl) ?_
                        refine tk_getP (D := (dC, dI)) (ci := 12) (v := .ref a_17) (C := RX12) (T := TX12) (N := 56) hx hb hU inlX12 hown hK hP mo0 hfo_221 rfl 16 (by decide) (hU _ wd_176) (fun _ h9 => h9) rfl dX12_asks_220 ?_
                        refine lv_iload_n hx hb dX12_asks_223 rfl (lv_at hl 12 rfl) ?_
                        refine lv_iconst (v := 1) hx hb dX12_asks_224 (by decide) ?_
                        refine lv_iadd hx hb dX12_asks_225 ?_
                        refine lv_topi (fun x_235 ex_235 => ?_)
                        have hx_235 : x_235.toInt = p2.toInt + 1 := by rw [ex_235, ad_I (by rw [ti_1]; omega) (by rw [ti_1]; omega), ti_1]
                        have bx_235 : (1 ≤ x_235.toInt ∧ x_235.toInt ≤ 14) := by constructor <;> omega
                        obtain ⟨g_237, hfo_236, hbg_237⟩ := un_582 (hG _ ma_17) ka_17
                        obtain ⟨a_238, hga_238, ma_238, ka_238⟩ := hbg_237 (Int32.toNatClampNeg x_235) (in_lt (vp_in_iff.mpr (by constructor <;> omega)))
                        refine tk_aldA hx hb hK hP 4 ma_17 hfo_236 rfl (vp_in_iff.mpr (by constructor <;> omega)) hga_238 dX12_asks_226 ?_
                        refine lv_iload hx hb dX12_asks_227 (lv_at hl 1 rfl) ?_
                        refine lv_dup2_11 hx hb dX12_asks_229 rfl rfl ?_
                        obtain ⟨g_240, hfo_239, hbg_240⟩ := un_581 (hG _ ma_238) ka_238
                        refine tk_ildP hx hb hK hP 0 ma_238 hfo_239 rfl (vp_in_iff.mpr (by constructor <;> omega)) dX12_asks_230 ?_
                        refine lv_topi (fun x_241 ex_241 => ?_)
                        have bx_241 : ((-2147483648) ≤ x_241.toInt ∧ x_241.toInt ≤ 2147483647) := ⟨i32_lo _, i32_hi _⟩
                        refine lv_iload hx hb dX12_asks_231 (lv_at hl 0 rfl) ?_
                        refine lv_ior hx hb dX12_asks_233 ?_
                        refine lv_topi (fun x_242 ex_242 => ?_)
                        have bx_242 : ((-2147483648) ≤ x_242.toInt ∧ x_242.toInt ≤ 2147483647) := ⟨i32_lo _, i32_hi _⟩
                        refine tk_istP hx hb hK hP hD hS 0 ma_238 hfo_239 rfl (vp_in_iff.mpr (by constructor <;> omega)) dX12_asks_234 (fun H locs hP hD hS => ?_)
                        obtain ⟨f_244, ef_244⟩ : ∃ y : Nat → va_E, y = va_up f_220 a_238 (.inl (cI, 24, .inl (upd g_240 (Int32.toNatClampNeg x_227) x_242))) := ⟨_, rfl⟩
                        have hP : va_P (dC, dI) vwCl (va_pl L f_244) H := by rw [ef_244]; exact hP
                        have hD : va_D (fun q => q ∈ L) (va_pl L f_244) := by rw [ef_244]; exact hD
                        have hG : GI (okc cI cL cZ cR cG cH L kd) kd L f_244 := by rw [ef_244]; exact hG.set a_238 (mk_581 ka_238 ⟨_, rfl, okI_up hbg_240 ⟨i32_lo _, i32_hi _⟩ _⟩)
                        have hfo_245 : f_244 o0 = .inr (12, [.ref a_1, .ref a_2, .ref a_3, .int v_4, .ref a_5, .int v_6, .int v_7, .int v_8, .int v_9, .int v_10, .int v_11, .int v_12, .int v_13, .int v_14, .int v_15, .ref a_16, .ref a_17, .ref a_18, .ref a_19, .ref a_20, .ref a_21, .ref a_22, .ref a_23, .int v_24, .int v_25, .int v_26, .int v_27, .int v_28, .ref a_29, .int v_30, .ref a_31, .ref a_32, .int v_33, .int v_34, .ref a_35, .int v_36, .ref a_37, .ref a_38, .int v_39, .int v_40, .ref a_41, .ref a_42, .ref a_43, .int v_44, .ref a_45, .ref a_46, .ref a_47, .ref a_48, .ref a_49, .ref a_50, .ref a_51, .ref a_52, .ref a_53, .int v_54, .int v_55, .ref a_56]) := by rw [ef_244, up_ne (kd_ne ka_238 ko0 (by decide))]; exact hfo_221
                        have hfo_246 : f_244 a_20 = .inl (cI, 20, .inl g_60) := by rw [ef_244, up_ne (kd_ne ka_238 ka_20 (by decide))]; exact hfo_222
                        have hfo_247 : f_244 a_17 = .inl (cG, 20, .inr (.inr (.inr (.inr g_237)))) := by rw [ef_244, up_ne (kd_ne ka_238 ka_17 (by decide))]; exact hfo_236
                        have hfr0 : ∀ b, kd b ≠ 581 → kd b ≠ 583 → kd b ≠ 585 → kd b ≠ 587 → f_244 b = f b := fun b q581 q583 q585 q587 => (congrFun ef_244 b).trans ((up_ne (fun e9 => q581 (by rw [e9]; exact ka_238))).trans (hfr0 b q581 q583 q585 q587))
                        have hfo_248 : f_244 a_238 = .inl (cI, 24, .inl (upd g_240 (Int32.toNatClampNeg x_227) x_242)) := by rw [ef_244]; exact up_self
                        refine lv_iload hx hb dX12_asks_235 (lv_at hl 4 rfl) ?_
                        refine lv_iload hx hb dX12_asks_237 (lv_at hl 0 rfl) ?_
                        refine lv_ior hx hb dX12_asks_239 ?_
                        refine lv_topi (fun x_249 ex_249 => ?_)
                        have bx_249 : ((-2147483648) ≤ x_249.toInt ∧ x_249.toInt ≤ 2147483647) := ⟨i32_lo _, i32_hi _⟩
                        refine lv_istore (lv' := [(9, .int x_249), (13, .int y_231), (12, .int x_227), (11, .int y_216), (10, .int y_217), (8, .int x_190), (7, .int y_77), (6, .int y_75), (5, .int x_72), (4, .int y_70), (0, .ref o0), (1, .int p1), (2, .int p2), (3, .int p3)]) hx hb dX12_asks_240 hl (by decide) rfl (fun ls hl => ?_)
                        refine lv_iload hx hb dX12_asks_242 (lv_at hl 4 rfl) ?_
                        have hcut_252 : ∀ (y_250 : Int32), (0 ≤ y_250.toInt ∧ y_250.toInt ≤ 1) → ∀ (H : Heap) (locs : List Loc), va_P (dC, dI) vwCl (va_pl L f_244) H → va_S (fun q => q ∈ L) s.heap H locs → ∀ (ls : Array Slot), lv_has ls 14 [(9, .int x_249), (13, .int y_231), (12, .int x_227), (11, .int y_216), (10, .int y_217), (8, .int x_190), (7, .int y_77), (6, .int y_75), (5, .int x_72), (4, .int y_70), (0, .ref o0), (1, .int p1), (2, .int p2), (3, .int p3)] → W p l e (headSpec (wU yX12_asks cX12_asks 14 (some .boolean)) { frames := 3, cells := 0, slots := 0, locals := 67 }).room s m [.ref o0, .int p1, .int p2, .int p3].toArray below meth c H locs 0 0 (MQ below (va_Qi (fun (r : Int32) (f9 : Nat → va_E) => GI (okc cI cL cZ cR cG cH L kd) kd L f9 ∧ (0 ≤ r.toInt ∧ r.toInt ≤ 1) ∧ (∀ b, kd b ≠ 581 → kd b ≠ 583 → kd b ≠ 585 → kd b ≠ 587 → f9 b = f b) ∧ (∀ b9 g9, fldR (f9 o0) 19 = some b9 → f9 b9 = .inl (cI, 20, .inl g9) → ∀ j : Nat, (j : Int) = p2.toInt + 1 → (g9 j).toInt ≤ 8 * p2.toInt + p1.toInt + 1)) (qP (dC, dI) cI cL cZ cR cG cH L) (fun q => q ∈ L)) [.ref o0, .int p1, .int p2, .int p3].toArray s 0 0 (fun q => q ∈ L)) (F0 m 268 ls [.int y_250]) := by
                          intro y_250 by_250 H locs hP hS ls hl
                          refine lv_istore (lv' := [(10, .int y_250), (9, .int x_249), (13, .int y_231), (12, .int x_227), (11, .int y_216), (8, .int x_190), (7, .int y_77), (6, .int y_75), (5, .int x_72), (4, .int y_70), (0, .ref o0), (1, .int p1), (2, .int p2), (3, .int p3)]) hx hb dX12_asks_268 hl (by decide) rfl (fun ls hl => ?_)
                          obtain ⟨x_253, ex_253⟩ : ∃ y : Int32, y_216 + 1 = y := ⟨_, rfl⟩
                          have hx_253 : x_253.toInt = y_216.toInt + 1 := by rw [← ex_253, ad_I (by rw [ti_1]; omega) (by rw [ti_1]; omega), ti_1]
                          have bx_253 : (1 ≤ x_253.toInt ∧ x_253.toInt ≤ 3) := by constructor <;> omega
                          refine lv_iinc (v := x_253) (lv' := [(11, .int x_253), (10, .int y_250), (9, .int x_249), (13, .int y_231), (12, .int x_227), (8, .int x_190), (7, .int y_77), (6, .int y_75), (5, .int x_72), (4, .int y_70), (0, .ref o0), (1, .int p1), (2, .int p2), (3, .int p3)]) hx hb dX12_asks_270 hl (k := 4) rfl ex_253 (by decide) rfl (fun ls hl => ?_)
                          refine lv_goto (tgt := 135) hx hb dX12_asks_273 (by decide) ?_
                          exact ih_hloop_215 x_253 (by constructor <;> omega) y_250 (by constructor <;> omega) x_249 (by constructor <;> omega) f_244 hG _ _ hP hS hD hfr0 hfo_245 hfo_246 (by omega) ls (lv_sub hl [0, 1, 2, 5, 6, 7, 8, 9, 10, 11, 12, 13] rfl)
                        refine lv_if_ne (tgt := 263) hx hb dX12_asks_244 (by decide) (fun c_254 => ?_) (fun c_254 => ?_)
                        · skip
                          rw [← Int32.toInt_inj, ti_0] at c_254
                          refine lv_iconst (v := 1) hx hb dX12_asks_263 (by decide) ?_
                          refine lv_goto (tgt := 268) hx hb dX12_asks_264 (by decide) ?_
                          exact hcut_252 1 (by decide) _ _ hP hS ls (lv_sub hl [0, 1, 2, 3, 4, 5, 6, 7, 8, 9, 10, 11, 12, 13] rfl)
                        · skip
                          rw [← Int32.toInt_inj, ti_0] at c_254
                          refine lv_iload hx hb dX12_asks_247 (lv_at hl 1 rfl) ?_
                          refine lv_if_eq (tgt := 267) hx hb dX12_asks_249 (by decide) (fun c_255 => ?_) (fun c_255 => ?_)
                          · skip
                            rw [← Int32.toInt_inj, ti_0] at c_255
                            refine lv_iconst (v := 0) hx hb dX12_asks_267 (by decide) ?_
                            exact hcut_252 0 (by decide) _ _ hP hS ls (lv_sub hl [0, 1, 2, 3, 4, 5, 6, 7, 8, 9, 10, 11, 12, 13] rfl)
                          · skip
                            rw [← Int32.toInt_inj, ti_0] at c_255
                            refine lv_aload_n hx hb dX12_asks_252 rfl (lv_at hl 10 rfl) ?_
                            refine lv_iload hx hb dX12_asks_253 (lv_at hl 2 rfl) ?_
                            refine lv_iload hx hb dX12_asks_255 (lv_at hl 1 rfl) ?_
                            refine tk_ViP (As := [.int x_227, .int y_231]) (rest := []) (n := 2) hx hb hml hown hU hN hZ (s_X12_isMet_k12 l (dC, dI) cI cL cZ cR cG cH Z kd L f_244 hG o0 mo0 ko0 x_227 (by constructor <;> omega) y_231) wd_954 wd_955 wd_956 wd_5 wd_957 (by decide +kernel) ⟨Nat.le_of_ble_eq_true rfl, Nat.le_of_ble_eq_true rfl⟩ hK hP hD hS mo0 hfo_245 12 rfl rfl rfl hl.1 rfl (Nat.le_of_ble_eq_true rfl) dX12_asks_257 ⟨Nat.le_of_ble_eq_true rfl, Nat.le_of_ble_eq_true rfl⟩ (fun x_256 f_257 H locs hw hP hD hS => ?_)
                            obtain ⟨rfl, bx_256⟩ := hw
                            refine lv_if_eq (tgt := 267) hx hb dX12_asks_260 (by decide) (fun c_259 => ?_) (fun c_259 => ?_)
                            · skip
                              rw [← Int32.toInt_inj, ti_0] at c_259
                              refine lv_iconst (v := 0) hx hb dX12_asks_267 (by decide) ?_
                              exact hcut_252 0 (by decide) _ _ hP hS ls (lv_sub hl [0, 1, 2, 3, 4, 5, 6, 7, 8, 9, 10, 11, 12, 13] rfl)
                            · skip
                              rw [← Int32.toInt_inj, ti_0] at c_259
                              refine lv_iconst (v := 1) hx hb dX12_asks_263 (by decide) ?_
                              refine lv_goto (tgt := 268) hx hb dX12_asks_264 (by decide) ?_
                              exact hcut_252 1 (by decide) _ _ hP hS ls (lv_sub hl [0, 1, 2, 3, 4, 5, 6, 7, 8, 9, 10, 11, 12, 13] rfl)
                      · skip
                        rw [← Int32.toInt_inj, ti_0] at c_234
                        exfalso
                        omega
                    refine lv_icmp_ge (tgt := 190) hx hb dX12_asks_157 (by decide) (fun c_260 => ?_) (fun c_260 => ?_)
                    · skip
                      rw [Int32.le_iff_toInt_le] at c_260
                      refine lv_iconst (v := 0) hx hb dX12_asks_190 (by decide) ?_
                      exact hcut_233 0 (by decide) _ _ hP hS ls (lv_sub hl [0, 1, 2, 3, 4, 5, 6, 7, 8, 9, 10, 11, 12] rfl)
                    · skip
                      rw [Int32.le_iff_toInt_le] at c_260
                      refine lv_aload_n hx hb dX12_asks_160 rfl (lv_at hl 9 rfl) ?_
                      refine lv_iload hx hb dX12_asks_161 (lv_at hl 0 rfl) ?_
                      refine lv_iconst (v := 0) hx hb dX12_asks_163 (by decide) ?_
                      refine lv_aload_n hx hb dX12_asks_164 rfl (lv_at hl 9 rfl) ?_
                      refine tk_getP (D := (dC, dI)) (ci := 12) (v := .ref a_16) (C := RX12) (T := TX12) (N := 56) hx hb hU inlX12 hown hK hP mo0 hfo_221 rfl 15 (by decide) (hU _ wd_175) (fun _ h9 => h9) rfl dX12_asks_165 ?_
                      refine lv_iload_n hx hb dX12_asks_168 rfl (lv_at hl 11 rfl) ?_
                      obtain ⟨g_262, hfo_261, hbg_262⟩ := un_580 (hG _ ma_16) ka_16
                      obtain ⟨a_263, hga_263, ma_263, ka_263⟩ := hbg_262 (Int32.toNatClampNeg p2) (in_lt (vp_in_iff.mpr (by constructor <;> omega)))
                      refine tk_aldA hx hb hK hP 4 ma_16 hfo_261 rfl (vp_in_iff.mpr (by constructor <;> omega)) hga_263 dX12_asks_169 ?_
                      refine lv_iload hx hb dX12_asks_170 (lv_at hl 0 rfl) ?_
                      obtain ⟨g_265, hfo_264, hbg_265⟩ := un_579 (hG _ ma_263) ka_263
                      refine tk_ildP hx hb hK hP 0 ma_263 hfo_264 rfl (vp_in_iff.mpr (by constructor <;> omega)) dX12_asks_172 ?_
                      refine lv_topi (fun x_266 ex_266 => ?_)
                      have bx_266 : ((-2147483648) ≤ x_266.toInt ∧ x_266.toInt ≤ 2147483647) := ⟨i32_lo _, i32_hi _⟩
                      refine tk_ViP (As := [.int x_227, .int 0, .int x_266]) (rest := []) (n := 3) hx hb hml hown hU hN hZ (s_X12_isDone_k12 l (dC, dI) cI cL cZ cR cG cH Z kd L f_220 hG o0 mo0 ko0 x_227 (by constructor <;> omega) 0 (by decide) x_266) wd_898 wd_899 wd_900 wd_5 wd_901 (by decide +kernel) ⟨Nat.le_of_ble_eq_true rfl, Nat.le_of_ble_eq_true rfl⟩ hK hP hD hS mo0 hfo_221 12 rfl rfl rfl hl.1 rfl (Nat.le_of_ble_eq_true rfl) dX12_asks_173 ⟨Nat.le_of_ble_eq_true rfl, Nat.le_of_ble_eq_true rfl⟩ (fun x_267 f_268 H locs hw hP hD hS => ?_)
                      obtain ⟨rfl, bx_267⟩ := hw
                      refine lv_if_eq (tgt := 190) hx hb dX12_asks_176 (by decide) (fun c_270 => ?_) (fun c_270 => ?_)
                      · skip
                        rw [← Int32.toInt_inj, ti_0] at c_270
                        refine lv_iconst (v := 0) hx hb dX12_asks_190 (by decide) ?_
                        exact hcut_233 0 (by decide) _ _ hP hS ls (lv_sub hl [0, 1, 2, 3, 4, 5, 6, 7, 8, 9, 10, 11, 12] rfl)
                      · skip
                        rw [← Int32.toInt_inj, ti_0] at c_270
                        refine lv_aload_n hx hb dX12_asks_179 rfl (lv_at hl 9 rfl) ?_
                        refine lv_iload hx hb dX12_asks_180 (lv_at hl 0 rfl) ?_
                        refine lv_iconst (v := 1) hx hb dX12_asks_182 (by decide) ?_
                        refine lv_iconst (v := 1) hx hb dX12_asks_183 (by decide) ?_
                        refine tk_ViP (As := [.int x_227, .int 1, .int 1]) (rest := []) (n := 3) hx hb hml hown hU hN hZ (s_X12_closed_k12 l (dC, dI) cI cL cZ cR cG cH Z kd L f_220 hG o0 mo0 ko0 x_227 (by constructor <;> omega) 1 (by decide) 1 (by decide)) wd_878 wd_879 wd_880 wd_5 wd_881 (by decide +kernel) ⟨Nat.le_of_ble_eq_true rfl, Nat.le_of_ble_eq_true rfl⟩ hK hP hD hS mo0 hfo_221 12 rfl rfl rfl hl.1 rfl (Nat.le_of_ble_eq_true rfl) dX12_asks_184 ⟨Nat.le_of_ble_eq_true rfl, Nat.le_of_ble_eq_true rfl⟩ (fun x_271 f_272 H locs hw hP hD hS => ?_)
                        obtain ⟨rfl, bx_271⟩ := hw
                        refine lv_goto (tgt := 191) hx hb dX12_asks_187 (by decide) ?_
                        exact hcut_233 x_271 (by constructor <;> omega) _ _ hP hS ls (lv_sub hl [0, 1, 2, 3, 4, 5, 6, 7, 8, 9, 10, 11, 12] rfl)
              exact hloop_215 4 0 (by decide) 0 (by decide) 0 (by decide) f hG _ _ hP hS hD hfr0 hfo_57 hfo_59 (by (try rw [ti_0]) <;> omega) ls hl
            · skip
              rw [← Int32.toInt_inj, ti_0] at c_188
              refine lv_iconst (v := 1) hx hb dX12_asks_114 (by decide) ?_
              exact W.zret (v := 1) (ty := .boolean) hx hb hr rfl (fun t ht hW => ⟨⟨1, f, rfl, ⟨hG, (by decide), hfr0, (fun b9 g9 h1 h2 => by rw [hfo_57] at h1; obtain rfl := Option.some.inj h1; rw [hfo_59] at h2; cases h2; intro j hj; have h8 := has0 j hj; omega)⟩, by rw [ht]; exact hP, va_K.moved hW.alike hK, pl_in hD⟩, hS.F ht⟩) hS.2.2 dX12_asks_115
        refine lv_if_eq (tgt := 85) hx hb dX12_asks_68 (by decide) (fun c_274 => ?_) (fun c_274 => ?_)
        · skip
          rw [← Int32.toInt_inj, ti_0] at c_274
          refine lv_iload hx hb dX12_asks_85 (lv_at hl 1 rfl) ?_
          refine lv_iconst (v := 1) hx hb dX12_asks_87 (by decide) ?_
          refine lv_icmp_eq (tgt := 97) hx hb dX12_asks_88 (by decide) (fun c_275 => ?_) (fun c_275 => ?_)
          · skip
            rw [← Int32.toInt_inj, ti_1] at c_275
            refine lv_iconst (v := 1) hx hb dX12_asks_97 (by decide) ?_
            refine lv_goto (tgt := 102) hx hb dX12_asks_98 (by decide) ?_
            exact hcut_78 1 (by decide) ls (lv_sub hl [0, 1, 2, 3, 4, 5, 6] rfl)
          · skip
            rw [← Int32.toInt_inj, ti_1] at c_275
            refine lv_iload hx hb dX12_asks_91 (lv_at hl 1 rfl) ?_
            refine lv_iconst (v := 2) hx hb dX12_asks_93 (by decide) ?_
            refine lv_icmp_ne (tgt := 101) hx hb dX12_asks_94 (by decide) (fun c_276 => ?_) (fun c_276 => ?_)
            · skip
              rw [← Int32.toInt_inj, ti_2] at c_276
              refine lv_iconst (v := 0) hx hb dX12_asks_101 (by decide) ?_
              exact hcut_78 0 (by decide) ls (lv_sub hl [0, 1, 2, 3, 4, 5, 6] rfl)
            · skip
              rw [← Int32.toInt_inj, ti_2] at c_276
              refine lv_iconst (v := 1) hx hb dX12_asks_97 (by decide) ?_
              refine lv_goto (tgt := 102) hx hb dX12_asks_98 (by decide) ?_
              exact hcut_78 1 (by decide) ls (lv_sub hl [0, 1, 2, 3, 4, 5, 6] rfl)
        · skip
          rw [← Int32.toInt_inj, ti_0] at c_274
          refine lv_iload hx hb dX12_asks_71 (lv_at hl 1 rfl) ?_
          refine lv_iconst (v := 3) hx hb dX12_asks_73 (by decide) ?_
          refine lv_icmp_ne (tgt := 81) hx hb dX12_asks_74 (by decide) (fun c_277 => ?_) (fun c_277 => ?_)
          · skip
            rw [← Int32.toInt_inj, ti_3] at c_277
            refine lv_iconst (v := 0) hx hb dX12_asks_81 (by decide) ?_
            refine lv_goto (tgt := 102) hx hb dX12_asks_82 (by decide) ?_
            exact hcut_78 0 (by decide) ls (lv_sub hl [0, 1, 2, 3, 4, 5, 6] rfl)
          · skip
            rw [← Int32.toInt_inj, ti_3] at c_277
            refine lv_iconst (v := 1) hx hb dX12_asks_77 (by decide) ?_
            refine lv_goto (tgt := 102) hx hb dX12_asks_78 (by decide) ?_
            exact hcut_78 1 (by decide) ls (lv_sub hl [0, 1, 2, 3, 4, 5, 6] rfl)
      refine lv_if_eq (tgt := 63) hx hb dX12_asks_45 (by decide) (fun c_278 => ?_) (fun c_278 => ?_)
      · skip
        rw [← Int32.toInt_inj, ti_0] at c_278
        refine lv_iconst (v := 0) hx hb dX12_asks_63 (by decide) ?_
        exact hcut_76 0 (by decide) ls (lv_sub hl [0, 1, 2, 3, 4, 5] rfl)
      · skip
        rw [← Int32.toInt_inj, ti_0] at c_278
        refine lv_iload hx hb dX12_asks_48 (lv_at hl 0 rfl) ?_
        refine lv_if_eq (tgt := 59) hx hb dX12_asks_50 (by decide) (fun c_279 => ?_) (fun c_279 => ?_)
        · skip
          rw [← Int32.toInt_inj, ti_0] at c_279
          refine lv_iconst (v := 1) hx hb dX12_asks_59 (by decide) ?_
          refine lv_goto (tgt := 64) hx hb dX12_asks_60 (by decide) ?_
          exact hcut_76 1 (by decide) ls (lv_sub hl [0, 1, 2, 3, 4, 5] rfl)
        · skip
          rw [← Int32.toInt_inj, ti_0] at c_279
          refine lv_iload hx hb dX12_asks_53 (lv_at hl 0 rfl) ?_
          refine lv_iconst (v := 2) hx hb dX12_asks_55 (by decide) ?_
          refine lv_icmp_ne (tgt := 63) hx hb dX12_asks_56 (by decide) (fun c_280 => ?_) (fun c_280 => ?_)
          · skip
            rw [← Int32.toInt_inj, ti_2] at c_280
            refine lv_iconst (v := 0) hx hb dX12_asks_63 (by decide) ?_
            exact hcut_76 0 (by decide) ls (lv_sub hl [0, 1, 2, 3, 4, 5] rfl)
          · skip
            rw [← Int32.toInt_inj, ti_2] at c_280
            refine lv_iconst (v := 1) hx hb dX12_asks_59 (by decide) ?_
            refine lv_goto (tgt := 64) hx hb dX12_asks_60 (by decide) ?_
            exact hcut_76 1 (by decide) ls (lv_sub hl [0, 1, 2, 3, 4, 5] rfl)
    refine lv_icmp_ne (tgt := 32) hx hb dX12_asks_25 (by decide) (fun c_281 => ?_) (fun c_281 => ?_)
    · skip
      rw [← Int32.toInt_inj] at c_281
      refine lv_iconst (v := 0) hx hb dX12_asks_32 (by decide) ?_
      exact hcut_71 0 (by decide) ls (lv_sub hl [0, 1, 2, 3] rfl)
    · skip
      rw [← Int32.toInt_inj] at c_281
      refine lv_iconst (v := 1) hx hb dX12_asks_28 (by decide) ?_
      refine lv_goto (tgt := 33) hx hb dX12_asks_29 (by decide) ?_
      exact hcut_71 1 (by decide) ls (lv_sub hl [0, 1, 2, 3] rfl)
  · skip
    rw [← Int32.toInt_inj] at c_65
    refine lv_iconst (v := 1) hx hb dX12_asks_13 (by decide) ?_
    exact W.zret (v := 1) (ty := .boolean) hx hb hr rfl (fun t ht hW => ⟨⟨1, f, rfl, ⟨hG, (by decide), hfr0, (fun b9 g9 h1 h2 => by rw [hfo_57] at h1; obtain rfl := Option.some.inj h1; rw [hfo_59] at h2; cases h2; intro j hj; have h8 := has0 j hj; omega)⟩, by rw [ht]; exact hP, va_K.moved hW.alike hK, pl_in hD⟩, hS.F ht⟩) hS.2.2 dX12_asks_14
