set_option maxHeartbeats 8000000 in
set_option maxRecDepth 100000 in
theorem s_X12_reads_k12 (l : Launch) (D : va_G) (cI cL cZ cR cG cH : ClassId) (Z : zT) (kd : Nat → Nat) (L : List Nat) (f : Nat → va_E) (hG : GI (okc cI cL cZ cR cG cH L kd) kd L f) (o0 : Nat) (mo0 : o0 ∈ L) (ko0 : kd o0 = 12) (p1 : Int32) (bp1 : (0 ≤ p1.toInt ∧ p1.toInt ≤ 13)) (p2 : Int32) (p3 : Int32) : mPI l D cI cL cZ cR cG cH Z yX12_reads cX12_reads 5 (some .boolean) 4 105 [.ref o0, .int p1, .int p2, .int p3] L f (fun (r : Int32) (f9 : Nat → va_E) => GI (okc cI cL cZ cR cG cH L kd) kd L f9 ∧ (0 ≤ r.toInt ∧ r.toInt ≤ 1) ∧ (∀ b, kd b ≠ 579 → kd b ≠ 581 → kd b ≠ 583 → kd b ≠ 585 → kd b ≠ 587 → kd b ≠ 588 → f9 b = f b)) := by
  obtain ⟨dC, dI⟩ := D
  refine Met.ofW (cc := cX12_reads) (maxL := 5) (ret := (some .boolean)) (by decide) rfl ?_
  intro p e s m args below meth c s₁ B hml hv
  obtain ⟨rfl, hP, hK, hD0, hN, hZ⟩ := hv
  have hx := B.exec
  have hb := B.bytes
  have hr := B.returns
  have hU : ∀ w ∈ wsU, w.before _ s = true := fun w h => atoms_spec (ws := wU yX12_reads cX12_reads 5 (some .boolean)) B.pre w (List.mem_cons_of_mem _ h)
  have hown : s.vm.findClass RX12 = some m.cls := findClass_of_methodNamed B.named
  have hlocks := B.notSynchronized
  have hD := pl_in hD0
  have hS : va_S (fun q => q ∈ L) s.heap s.heap [] := va_S.rf
  have hl := lv_entry ([.ref o0, .int p1, .int p2, .int p3]) (n := 5) (Nat.le_of_ble_eq_true rfl)
  rw [lg_entry_eq]
  generalize (lg_sl ([.ref o0, .int p1, .int p2, .int p3]) ++ List.replicate (5 - (lg_sl ([.ref o0, .int p1, .int p2, .int p3])).length) Slot.unset).toArray = ls at hl ⊢
  have hl : lv_has ls 5 [(0, .ref o0), (1, .int p1), (2, .int p2), (3, .int p3)] := hl
  have bp2 : ((-2147483648) ≤ p2.toInt ∧ p2.toInt ≤ 2147483647) := ⟨i32_lo _, i32_hi _⟩
  have bp3 : ((-2147483648) ≤ p3.toInt ∧ p3.toInt ≤ 2147483647) := ⟨i32_lo _, i32_hi _⟩
  have hfr0 : ∀ b, kd b ≠ 579 → kd b ≠ 581 → kd b ≠ 583 → kd b ≠ 585 → kd b ≠ 587 → kd b ≠ 588 → f b = f b := fun _ _ _ _ _ _ _ => rfl
  obtain ⟨a_2, a_3, a_4, v_5, a_6, v_7, v_8, v_9, v_10, v_11, v_12, v_13, v_14, v_15, v_16, a_17, a_18, a_19, a_20, a_21, a_22, a_23, a_24, v_25, v_26, v_27, v_28, v_29, a_30, v_31, a_32, a_33, v_34, v_35, a_36, v_37, a_38, a_39, v_40, v_41, a_42, a_43, a_44, v_45, a_46, a_47, a_48, a_49, a_50, a_51, a_52, a_53, a_54, v_55, v_56, a_57, hfo_1, ⟨ma_2, ka_2⟩, ⟨ma_3, ka_3⟩, ⟨ma_4, ka_4⟩, bv_5, ⟨ma_6, ka_6⟩, bv_7, bv_8, bv_13, bv_14, bv_15, ⟨ma_17, ka_17⟩, ⟨ma_18, ka_18⟩, ⟨ma_19, ka_19⟩, ⟨ma_20, ka_20⟩, ⟨ma_21, ka_21⟩, ⟨ma_22, ka_22⟩, ⟨ma_23, ka_23⟩, ⟨ma_24, ka_24⟩, bv_25, bv_27, bv_29, ⟨ma_30, ka_30⟩, bv_31, ⟨ma_32, ka_32⟩, ⟨ma_33, ka_33⟩, bv_34, ⟨ma_36, ka_36⟩, bv_37, ⟨ma_38, ka_38⟩, ⟨ma_39, ka_39⟩, bv_40, ⟨ma_42, ka_42⟩, ⟨ma_43, ka_43⟩, ⟨ma_44, ka_44⟩, bv_45, ⟨ma_46, ka_46⟩, ⟨ma_47, ka_47⟩, ⟨ma_48, ka_48⟩, ⟨ma_49, ka_49⟩, ⟨ma_50, ka_50⟩, ⟨ma_51, ka_51⟩, ⟨ma_52, ka_52⟩, ⟨ma_53, ka_53⟩, ⟨ma_54, ka_54⟩, bv_55, ⟨ma_57, ka_57⟩⟩ := un_12 (hG _ mo0) ko0
  have bv_9 : ((-2147483648) ≤ v_9.toInt ∧ v_9.toInt ≤ 2147483647) := ⟨i32_lo _, i32_hi _⟩
  have bv_10 : ((-2147483648) ≤ v_10.toInt ∧ v_10.toInt ≤ 2147483647) := ⟨i32_lo _, i32_hi _⟩
  have bv_11 : ((-2147483648) ≤ v_11.toInt ∧ v_11.toInt ≤ 2147483647) := ⟨i32_lo _, i32_hi _⟩
  have bv_12 : ((-2147483648) ≤ v_12.toInt ∧ v_12.toInt ≤ 2147483647) := ⟨i32_lo _, i32_hi _⟩
  have bv_16 : ((-2147483648) ≤ v_16.toInt ∧ v_16.toInt ≤ 2147483647) := ⟨i32_lo _, i32_hi _⟩
  have bv_26 : ((-2147483648) ≤ v_26.toInt ∧ v_26.toInt ≤ 2147483647) := ⟨i32_lo _, i32_hi _⟩
  have bv_28 : ((-2147483648) ≤ v_28.toInt ∧ v_28.toInt ≤ 2147483647) := ⟨i32_lo _, i32_hi _⟩
  have bv_35 : ((-2147483648) ≤ v_35.toInt ∧ v_35.toInt ≤ 2147483647) := ⟨i32_lo _, i32_hi _⟩
  have bv_41 : ((-2147483648) ≤ v_41.toInt ∧ v_41.toInt ≤ 2147483647) := ⟨i32_lo _, i32_hi _⟩
  have bv_56 : ((-2147483648) ≤ v_56.toInt ∧ v_56.toInt ≤ 2147483647) := ⟨i32_lo _, i32_hi _⟩
  obtain ⟨g_59, hfo_58, hbg_59⟩ := un_587 (hG _ ma_21) ka_21
  refine lv_aload_n hx hb dX12_reads_0 rfl (lv_at hl 0 rfl) ?_
  refine tk_getP (D := (dC, dI)) (ci := 12) (v := .ref a_22) (C := RX12) (T := TX12) (N := 56) hx hb hU inlX12 hown hK hP mo0 hfo_1 rfl 20 (by decide) (hU _ wd_180) (fun _ h9 => h9) rfl dX12_reads_1 ?_
  refine lv_iload_n hx hb dX12_reads_4 rfl (lv_at hl 1 rfl) ?_
  refine lv_iload_n hx hb dX12_reads_5 rfl (lv_at hl 2 rfl) ?_
  obtain ⟨g_61, hfo_60, hbg_61⟩ := un_588 (hG _ ma_22) ka_22
  refine tk_istP hx hb hK hP hD hS 0 ma_22 hfo_60 rfl (vp_in_iff.mpr (by constructor <;> omega)) dX12_reads_6 (fun H locs hP hD hS => ?_)
  obtain ⟨f_63, ef_63⟩ : ∃ y : Nat → va_E, y = va_up f a_22 (.inl (cI, 20, .inl (upd g_61 (Int32.toNatClampNeg p1) p2))) := ⟨_, rfl⟩
  have hP : va_P (dC, dI) vwCl (va_pl L f_63) H := by rw [ef_63]; exact hP
  have hD : va_D (fun q => q ∈ L) (va_pl L f_63) := by rw [ef_63]; exact hD
  have hG : GI (okc cI cL cZ cR cG cH L kd) kd L f_63 := by rw [ef_63]; exact hG.set a_22 (mk_588 ka_22 ⟨_, rfl, okI_up hbg_61 ⟨i32_lo _, i32_hi _⟩ _⟩)
  have hfo_64 : f_63 o0 = .inr (12, [.ref a_2, .ref a_3, .ref a_4, .int v_5, .ref a_6, .int v_7, .int v_8, .int v_9, .int v_10, .int v_11, .int v_12, .int v_13, .int v_14, .int v_15, .int v_16, .ref a_17, .ref a_18, .ref a_19, .ref a_20, .ref a_21, .ref a_22, .ref a_23, .ref a_24, .int v_25, .int v_26, .int v_27, .int v_28, .int v_29, .ref a_30, .int v_31, .ref a_32, .ref a_33, .int v_34, .int v_35, .ref a_36, .int v_37, .ref a_38, .ref a_39, .int v_40, .int v_41, .ref a_42, .ref a_43, .ref a_44, .int v_45, .ref a_46, .ref a_47, .ref a_48, .ref a_49, .ref a_50, .ref a_51, .ref a_52, .ref a_53, .ref a_54, .int v_55, .int v_56, .ref a_57]) := by rw [ef_63, up_ne (kd_ne ka_22 ko0 (by decide))]; exact hfo_1
  have hfo_65 : f_63 a_21 = .inl (cI, 20, .inl g_59) := by rw [ef_63, up_ne (kd_ne ka_22 ka_21 (by decide))]; exact hfo_58
  have hfr0 : ∀ b, kd b ≠ 579 → kd b ≠ 581 → kd b ≠ 583 → kd b ≠ 585 → kd b ≠ 587 → kd b ≠ 588 → f_63 b = f b := fun b q579 q581 q583 q585 q587 q588 => (congrFun ef_63 b).trans ((up_ne (fun e9 => q588 (by rw [e9]; exact ka_22))).trans (hfr0 b q579 q581 q583 q585 q587 q588))
  have hfo_66 : f_63 a_22 = .inl (cI, 20, .inl (upd g_61 (Int32.toNatClampNeg p1) p2)) := by rw [ef_63]; exact up_self
  refine lv_iconst (v := 0) hx hb dX12_reads_7 (by decide) ?_
  refine lv_istore (lv' := [(4, .int 0), (0, .ref o0), (1, .int p1), (2, .int p2), (3, .int p3)]) hx hb dX12_reads_8 hl (by decide) rfl (fun ls hl => ?_)
  have hloop_85 : ∀ (n : Nat), ∀ (y_86 : Int32), (0 ≤ y_86.toInt ∧ y_86.toInt ≤ 24) → ∀ (f_88 : Nat → va_E), GI (okc cI cL cZ cR cG cH L kd) kd L f_88 → ∀ (H : Heap) (locs : List Loc), va_P (dC, dI) vwCl (va_pl L f_88) H → va_S (fun q => q ∈ L) s.heap H locs → va_D (fun q => q ∈ L) (va_pl L f_88) → (∀ b, kd b ≠ 579 → kd b ≠ 581 → kd b ≠ 583 → kd b ≠ 585 → kd b ≠ 587 → kd b ≠ 588 → f_88 b = f b) → (f_88 o0 = .inr (12, [.ref a_2, .ref a_3, .ref a_4, .int v_5, .ref a_6, .int v_7, .int v_8, .int v_9, .int v_10, .int v_11, .int v_12, .int v_13, .int v_14, .int v_15, .int v_16, .ref a_17, .ref a_18, .ref a_19, .ref a_20, .ref a_21, .ref a_22, .ref a_23, .ref a_24, .int v_25, .int v_26, .int v_27, .int v_28, .int v_29, .ref a_30, .int v_31, .ref a_32, .ref a_33, .int v_34, .int v_35, .ref a_36, .int v_37, .ref a_38, .ref a_39, .int v_40, .int v_41, .ref a_42, .ref a_43, .ref a_44, .int v_45, .ref a_46, .ref a_47, .ref a_48, .ref a_49, .ref a_50, .ref a_51, .ref a_52, .ref a_53, .ref a_54, .int v_55, .int v_56, .ref a_57])) → (f_88 a_21 = .inl (cI, 20, .inl g_59)) → 24 - y_86.toInt < (n : Int) → ∀ (ls : Array Slot), lv_has ls 5 [(4, .int y_86), (0, .ref o0), (1, .int p1), (2, .int p2), (3, .int p3)] → W p l e (headSpec (wU yX12_reads cX12_reads 5 (some .boolean)) { frames := 4, cells := 0, slots := 0, locals := 105 }).room s m [.ref o0, .int p1, .int p2, .int p3].toArray below meth c H locs 0 0 (MQ below (va_Qi (fun (r : Int32) (f9 : Nat → va_E) => GI (okc cI cL cZ cR cG cH L kd) kd L f9 ∧ (0 ≤ r.toInt ∧ r.toInt ≤ 1) ∧ (∀ b, kd b ≠ 579 → kd b ≠ 581 → kd b ≠ 583 → kd b ≠ 585 → kd b ≠ 587 → kd b ≠ 588 → f9 b = f b)) (qP (dC, dI) cI cL cZ cR cG cH L) (fun q => q ∈ L)) [.ref o0, .int p1, .int p2, .int p3].toArray s 0 0 (fun q => q ∈ L)) (F0 m 10 ls []) := by
    intro n
    induction n with
    | zero => intro y_86 by_86 f_88 hG H locs hP hS hD hfr0 hfo_89 hfo_90 hmuhloop_85 ls hl; exfalso; omega
    | succ n ih_hloop_85 =>
      intro y_86 by_86 f_88 hG H locs hP hS hD hfr0 hfo_89 hfo_90 hmuhloop_85 ls hl
      refine lv_iload hx hb dX12_reads_10 (lv_at hl 0 rfl) ?_
      refine lv_iconst (v := 3) hx hb dX12_reads_12 (by decide) ?_
      refine lv_aload_n hx hb dX12_reads_13 rfl (lv_at hl 1 rfl) ?_
      refine tk_getP (D := (dC, dI)) (ci := 12) (v := .ref a_2) (C := RX12) (T := TX12) (N := 56) hx hb hU inlX12 hown hK hP mo0 hfo_89 rfl 0 (by decide) (hU _ wd_169) (fun _ h9 => h9) rfl dX12_reads_14 ?_
      refine lv_bipush (v := 17) hx hb dX12_reads_17 (by decide) ?_
      obtain ⟨g_92, hfo_91, hbg_92⟩ := un_575 (hG _ ma_2) ka_2
      refine tk_ildP hx hb hK hP 0 ma_2 hfo_91 rfl (vp_in_nI (n := 17) (by decide) (by decide)) dX12_reads_19 ?_
      refine lv_topi (fun x_93 ex_93 => ?_)
      have bx_93 : (0 ≤ x_93.toInt ∧ x_93.toInt ≤ 8) := by rw [ex_93]; exact hbg_92.2.2.1 _ (by decide) (by decide) (by decide)
      refine lv_imul hx hb dX12_reads_20 ?_
      refine lv_topi (fun x_94 ex_94 => ?_)
      have hx_94 : x_94.toInt = 3 * x_93.toInt := by rw [ex_94, ml_I (by rw [ti_3]; omega) (by rw [ti_3]; omega), ti_3]
      have bx_94 : (0 ≤ x_94.toInt ∧ x_94.toInt ≤ 24) := by constructor <;> omega
      refine lv_icmp_ge (tgt := 175) hx hb dX12_reads_21 (by decide) (fun c_95 => ?_) (fun c_95 => ?_)
      · skip
        rw [Int32.le_iff_toInt_le] at c_95
        refine lv_aload_n hx hb dX12_reads_175 rfl (lv_at hl 1 rfl) ?_
        refine lv_iload_n hx hb dX12_reads_176 rfl (lv_at hl 2 rfl) ?_
        refine lv_iload_n hx hb dX12_reads_177 rfl (lv_at hl 3 rfl) ?_
        refine tk_ViP (As := [.int p1, .int p2]) (rest := []) (n := 2) hx hb hml hown hU hN hZ (s_X12_needsGoOn_k12 l (dC, dI) cI cL cZ cR cG cH Z kd L f_88 hG o0 mo0 ko0 p1 (by constructor <;> omega) p2) wd_958 wd_959 wd_960 wd_5 wd_961 (by decide +kernel) ⟨Nat.le_of_ble_eq_true rfl, Nat.le_of_ble_eq_true rfl⟩ hK hP hD hS mo0 hfo_89 12 rfl rfl rfl hl.1 rfl (Nat.le_of_ble_eq_true rfl) dX12_reads_178 ⟨Nat.le_of_ble_eq_true rfl, Nat.le_of_ble_eq_true rfl⟩ (fun x_96 f_97 H locs hw hP hD hS => ?_)
        obtain ⟨hG, bx_96, hkc_98, hxp_99⟩ := hw
        have hfo_101 : f_97 o0 = .inr (12, [.ref a_2, .ref a_3, .ref a_4, .int v_5, .ref a_6, .int v_7, .int v_8, .int v_9, .int v_10, .int v_11, .int v_12, .int v_13, .int v_14, .int v_15, .int v_16, .ref a_17, .ref a_18, .ref a_19, .ref a_20, .ref a_21, .ref a_22, .ref a_23, .ref a_24, .int v_25, .int v_26, .int v_27, .int v_28, .int v_29, .ref a_30, .int v_31, .ref a_32, .ref a_33, .int v_34, .int v_35, .ref a_36, .int v_37, .ref a_38, .ref a_39, .int v_40, .int v_41, .ref a_42, .ref a_43, .ref a_44, .int v_45, .ref a_46, .ref a_47, .ref a_48, .ref a_49, .ref a_50, .ref a_51, .ref a_52, .ref a_53, .ref a_54, .int v_55, .int v_56, .ref a_57]) := by rw [hkc_98 o0 (by rw [ko0]; decide) (by rw [ko0]; decide) (by rw [ko0]; decide)]; exact hfo_89
        have hfo_102 : f_97 a_2 = .inl (cI, 1560, .inl g_92) := by rw [hkc_98 a_2 (by rw [ka_2]; decide) (by rw [ka_2]; decide) (by rw [ka_2]; decide)]; exact hfo_91
        have hfr0 : ∀ b, kd b ≠ 579 → kd b ≠ 581 → kd b ≠ 583 → kd b ≠ 585 → kd b ≠ 587 → kd b ≠ 588 → f_97 b = f b := fun b q579 q581 q583 q585 q587 q588 => (hkc_98 b q583 q585 q587).trans (hfr0 b q579 q581 q583 q585 q587 q588)
        obtain ⟨g_104, hfo_103, hbg_104⟩ := un_587 (hG _ ma_21) ka_21
        have hng := hxp_99 a_21 g_104 (by rw [hfo_101]; rfl) hfo_103
        refine lv_if_ne (tgt := 186) hx hb dX12_reads_181 (by decide) (fun c_105 => ?_) (fun c_105 => ?_)
        · skip
          rw [← Int32.toInt_inj, ti_0] at c_105
          refine lv_iconst (v := 0) hx hb dX12_reads_186 (by decide) ?_
          refine lv_istore (lv' := [(4, .int 0), (0, .ref o0), (1, .int p1), (2, .int p2), (3, .int p3)]) hx hb dX12_reads_187 hl (by decide) rfl (fun ls hl => ?_)
          have hloop_124 : ∀ (n : Nat), ∀ (y_125 : Int32), (0 ≤ y_125.toInt ∧ y_125.toInt ≤ 8) → ∀ (f_127 : Nat → va_E), GI (okc cI cL cZ cR cG cH L kd) kd L f_127 → ∀ (H : Heap) (locs : List Loc), va_P (dC, dI) vwCl (va_pl L f_127) H → va_S (fun q => q ∈ L) s.heap H locs → va_D (fun q => q ∈ L) (va_pl L f_127) → (∀ b, kd b ≠ 579 → kd b ≠ 581 → kd b ≠ 583 → kd b ≠ 585 → kd b ≠ 587 → kd b ≠ 588 → f_127 b = f b) → (f_127 o0 = .inr (12, [.ref a_2, .ref a_3, .ref a_4, .int v_5, .ref a_6, .int v_7, .int v_8, .int v_9, .int v_10, .int v_11, .int v_12, .int v_13, .int v_14, .int v_15, .int v_16, .ref a_17, .ref a_18, .ref a_19, .ref a_20, .ref a_21, .ref a_22, .ref a_23, .ref a_24, .int v_25, .int v_26, .int v_27, .int v_28, .int v_29, .ref a_30, .int v_31, .ref a_32, .ref a_33, .int v_34, .int v_35, .ref a_36, .int v_37, .ref a_38, .ref a_39, .int v_40, .int v_41, .ref a_42, .ref a_43, .ref a_44, .int v_45, .ref a_46, .ref a_47, .ref a_48, .ref a_49, .ref a_50, .ref a_51, .ref a_52, .ref a_53, .ref a_54, .int v_55, .int v_56, .ref a_57])) → (f_127 a_2 = .inl (cI, 1560, .inl g_92)) → (∀ g9, f_127 a_21 = .inl (cI, 20, .inl g9) → ∀ j : Nat, (j : Int) = p1.toInt + 1 → (g9 j).toInt ≤ 8 * p1.toInt + y_125.toInt) → 8 - y_125.toInt < (n : Int) → ∀ (ls : Array Slot), lv_has ls 5 [(4, .int y_125), (0, .ref o0), (1, .int p1), (2, .int p2), (3, .int p3)] → W p l e (headSpec (wU yX12_reads cX12_reads 5 (some .boolean)) { frames := 4, cells := 0, slots := 0, locals := 105 }).room s m [.ref o0, .int p1, .int p2, .int p3].toArray below meth c H locs 0 0 (MQ below (va_Qi (fun (r : Int32) (f9 : Nat → va_E) => GI (okc cI cL cZ cR cG cH L kd) kd L f9 ∧ (0 ≤ r.toInt ∧ r.toInt ≤ 1) ∧ (∀ b, kd b ≠ 579 → kd b ≠ 581 → kd b ≠ 583 → kd b ≠ 585 → kd b ≠ 587 → kd b ≠ 588 → f9 b = f b)) (qP (dC, dI) cI cL cZ cR cG cH L) (fun q => q ∈ L)) [.ref o0, .int p1, .int p2, .int p3].toArray s 0 0 (fun q => q ∈ L)) (F0 m 189 ls []) := by
            intro n
            induction n with
            | zero => intro y_125 by_125 f_127 hG H locs hP hS hD hfr0 hfo_128 hfo_129 hxn hmuhloop_124 ls hl; exfalso; omega
            | succ n ih_hloop_124 =>
              intro y_125 by_125 f_127 hG H locs hP hS hD hfr0 hfo_128 hfo_129 hxn hmuhloop_124 ls hl
              refine lv_iload hx hb dX12_reads_189 (lv_at hl 0 rfl) ?_
              refine lv_aload_n hx hb dX12_reads_191 rfl (lv_at hl 1 rfl) ?_
              refine tk_getP (D := (dC, dI)) (ci := 12) (v := .ref a_2) (C := RX12) (T := TX12) (N := 56) hx hb hU inlX12 hown hK hP mo0 hfo_128 rfl 0 (by decide) (hU _ wd_169) (fun _ h9 => h9) rfl dX12_reads_192 ?_
              refine lv_bipush (v := 17) hx hb dX12_reads_195 (by decide) ?_
              refine tk_ildP hx hb hK hP 0 ma_2 hfo_129 rfl (vp_in_nI (n := 17) (by decide) (by decide)) dX12_reads_197 ?_
              refine tk_topi (y := x_93) ex_93.symm ?_
              refine lv_icmp_ge (tgt := 230) hx hb dX12_reads_198 (by decide) (fun c_130 => ?_) (fun c_130 => ?_)
              · skip
                rw [Int32.le_iff_toInt_le] at c_130
                refine lv_iconst (v := 1) hx hb dX12_reads_230 (by decide) ?_
                exact W.zret (v := 1) (ty := .boolean) hx hb hr rfl (fun t ht hW => ⟨⟨1, f_127, rfl, ⟨hG, (by decide), hfr0⟩, by rw [ht]; exact hP, va_K.moved hW.alike hK, pl_in hD⟩, hS.F ht⟩) hS.2.2 dX12_reads_231
              · skip
                rw [Int32.le_iff_toInt_le] at c_130
                refine lv_iload_n hx hb dX12_reads_201 rfl (lv_at hl 4 rfl) ?_
                refine lv_iload hx hb dX12_reads_202 (lv_at hl 0 rfl) ?_
                refine lv_ishr hx hb dX12_reads_204 ?_
                refine lv_topi (fun x_131 ex_131 => ?_)
                have bx_131 : ((-2147483648) ≤ x_131.toInt ∧ x_131.toInt ≤ 2147483647) := ⟨i32_lo _, i32_hi _⟩
                refine lv_iconst (v := 1) hx hb dX12_reads_205 (by decide) ?_
                refine lv_iand hx hb dX12_reads_206 ?_
                refine lv_topi (fun x_132 ex_132 => ?_)
                have bx_132 : (0 ≤ x_132.toInt ∧ x_132.toInt ≤ 1) := by rw [ex_132]; have h8 := an_C x_131 (m := 1) (by decide); rw [ti_1] at h8; exact h8
                refine lv_iconst (v := 1) hx hb dX12_reads_207 (by decide) ?_
                refine lv_icmp_ne (tgt := 224) hx hb dX12_reads_208 (by decide) (fun c_133 => ?_) (fun c_133 => ?_)
                · skip
                  rw [← Int32.toInt_inj, ti_1] at c_133
                  obtain ⟨x_134, ex_134⟩ : ∃ y : Int32, y_125 + 1 = y := ⟨_, rfl⟩
                  have hx_134 : x_134.toInt = y_125.toInt + 1 := by rw [← ex_134, ad_I (by rw [ti_1]; omega) (by rw [ti_1]; omega), ti_1]
                  have bx_134 : (1 ≤ x_134.toInt ∧ x_134.toInt ≤ 8) := by constructor <;> omega
                  refine lv_iinc (v := x_134) (lv' := [(4, .int x_134), (0, .ref o0), (1, .int p1), (2, .int p2), (3, .int p3)]) hx hb dX12_reads_224 hl (k := 0) rfl ex_134 (by decide) rfl (fun ls hl => ?_)
                  refine lv_goto (tgt := 189) hx hb dX12_reads_227 (by decide) ?_
                  obtain ⟨g_136, hfo_135, hbg_136⟩ := un_587 (hG _ ma_21) ka_21
                  exact ih_hloop_124 x_134 (by constructor <;> omega) f_127 hG _ _ hP hS hD hfr0 hfo_128 hfo_129 (fun g9 h9 j hj => by have h8 := hxn g9 h9 j hj; omega) (by omega) ls (lv_sub hl [0, 1, 2, 3, 4] rfl)
                · skip
                  rw [← Int32.toInt_inj, ti_1] at c_133
                  refine lv_aload_n hx hb dX12_reads_211 rfl (lv_at hl 1 rfl) ?_
                  refine lv_iload hx hb dX12_reads_212 (lv_at hl 0 rfl) ?_
                  refine lv_iload_n hx hb dX12_reads_214 rfl (lv_at hl 2 rfl) ?_
                  refine lv_iload_n hx hb dX12_reads_215 rfl (lv_at hl 3 rfl) ?_
                  obtain ⟨g_138, hfo_137, hbg_138⟩ := un_587 (hG _ ma_21) ka_21
                  refine tk_ViP (As := [.int y_125, .int p1, .int p2]) (rest := []) (n := 3) hx hb hml hown hU hN hZ (s_X12_asks_k12 l (dC, dI) cI cL cZ cR cG cH Z kd L f_127 hG o0 mo0 ko0 y_125 (by constructor <;> omega) p1 (by constructor <;> omega) p2 (fun b9 g9 h1 h2 j hj => by rw [hfo_128] at h1; obtain rfl := Option.some.inj h1; have h8 := hxn g9 h2 j (by omega); omega)) wd_962 wd_963 wd_964 wd_5 wd_965 (by decide +kernel) ⟨Nat.le_of_ble_eq_true rfl, Nat.le_of_ble_eq_true rfl⟩ hK hP hD hS mo0 hfo_128 12 rfl rfl rfl hl.1 rfl (Nat.le_of_ble_eq_true rfl) dX12_reads_216 ⟨Nat.le_of_ble_eq_true rfl, Nat.le_of_ble_eq_true rfl⟩ (fun x_139 f_140 H locs hw hP hD hS => ?_)
                  obtain ⟨hG, bx_139, hkc_141, hxp_142⟩ := hw
                  have hfo_144 : f_140 o0 = .inr (12, [.ref a_2, .ref a_3, .ref a_4, .int v_5, .ref a_6, .int v_7, .int v_8, .int v_9, .int v_10, .int v_11, .int v_12, .int v_13, .int v_14, .int v_15, .int v_16, .ref a_17, .ref a_18, .ref a_19, .ref a_20, .ref a_21, .ref a_22, .ref a_23, .ref a_24, .int v_25, .int v_26, .int v_27, .int v_28, .int v_29, .ref a_30, .int v_31, .ref a_32, .ref a_33, .int v_34, .int v_35, .ref a_36, .int v_37, .ref a_38, .ref a_39, .int v_40, .int v_41, .ref a_42, .ref a_43, .ref a_44, .int v_45, .ref a_46, .ref a_47, .ref a_48, .ref a_49, .ref a_50, .ref a_51, .ref a_52, .ref a_53, .ref a_54, .int v_55, .int v_56, .ref a_57]) := by rw [hkc_141 o0 (by rw [ko0]; decide) (by rw [ko0]; decide) (by rw [ko0]; decide) (by rw [ko0]; decide)]; exact hfo_128
                  have hfo_145 : f_140 a_2 = .inl (cI, 1560, .inl g_92) := by rw [hkc_141 a_2 (by rw [ka_2]; decide) (by rw [ka_2]; decide) (by rw [ka_2]; decide) (by rw [ka_2]; decide)]; exact hfo_129
                  have hfr0 : ∀ b, kd b ≠ 579 → kd b ≠ 581 → kd b ≠ 583 → kd b ≠ 585 → kd b ≠ 587 → kd b ≠ 588 → f_140 b = f b := fun b q579 q581 q583 q585 q587 q588 => (hkc_141 b q581 q583 q585 q587).trans (hfr0 b q579 q581 q583 q585 q587 q588)
                  obtain ⟨g_147, hfo_146, hbg_147⟩ := un_587 (hG _ ma_21) ka_21
                  have hasx_139 := hxp_142 a_21 g_147 (by rw [hfo_144]; rfl) hfo_146
                  refine lv_if_ne (tgt := 224) hx hb dX12_reads_219 (by decide) (fun c_148 => ?_) (fun c_148 => ?_)
                  · skip
                    rw [← Int32.toInt_inj, ti_0] at c_148
                    obtain ⟨x_149, ex_149⟩ : ∃ y : Int32, y_125 + 1 = y := ⟨_, rfl⟩
                    have hx_149 : x_149.toInt = y_125.toInt + 1 := by rw [← ex_149, ad_I (by rw [ti_1]; omega) (by rw [ti_1]; omega), ti_1]
                    have bx_149 : (1 ≤ x_149.toInt ∧ x_149.toInt ≤ 8) := by constructor <;> omega
                    refine lv_iinc (v := x_149) (lv' := [(4, .int x_149), (0, .ref o0), (1, .int p1), (2, .int p2), (3, .int p3)]) hx hb dX12_reads_224 hl (k := 0) rfl ex_149 (by decide) rfl (fun ls hl => ?_)
                    refine lv_goto (tgt := 189) hx hb dX12_reads_227 (by decide) ?_
                    exact ih_hloop_124 x_149 (by constructor <;> omega) f_140 hG _ _ hP hS hD hfr0 hfo_144 hfo_145 (fun g9 h9 j hj => by rw [hfo_146] at h9; cases h9; have h8 := hasx_139 j hj; omega) (by omega) ls (lv_sub hl [0, 1, 2, 3, 4] rfl)
                  · skip
                    rw [← Int32.toInt_inj, ti_0] at c_148
                    refine lv_iconst (v := 0) hx hb dX12_reads_222 (by decide) ?_
                    exact W.zret (v := 0) (ty := .boolean) hx hb hr rfl (fun t ht hW => ⟨⟨0, f_140, rfl, ⟨hG, (by decide), hfr0⟩, by rw [ht]; exact hP, va_K.moved hW.alike hK, pl_in hD⟩, hS.F ht⟩) hS.2.2 dX12_reads_223
          exact hloop_124 9 0 (by decide) f_97 hG _ _ hP hS hD hfr0 hfo_101 hfo_102 (fun g9 h9 j hj => by rw [hfo_103] at h9; cases h9; have h8 := (hng.resolve_left (by omega)) j hj; have h3 : ((0 : Int32)).toInt = 0 := rfl; omega) (by (try rw [ti_0]) <;> omega) ls hl
        · skip
          rw [← Int32.toInt_inj, ti_0] at c_105
          refine lv_iconst (v := 0) hx hb dX12_reads_184 (by decide) ?_
          exact W.zret (v := 0) (ty := .boolean) hx hb hr rfl (fun t ht hW => ⟨⟨0, f_97, rfl, ⟨hG, (by decide), hfr0⟩, by rw [ht]; exact hP, va_K.moved hW.alike hK, pl_in hD⟩, hS.F ht⟩) hS.2.2 dX12_reads_185
      · skip
        rw [Int32.le_iff_toInt_le] at c_95
        refine lv_iload_n hx hb dX12_reads_24 rfl (lv_at hl 4 rfl) ?_
        refine lv_iload hx hb dX12_reads_25 (lv_at hl 0 rfl) ?_
        refine lv_iconst (v := 3) hx hb dX12_reads_27 (by decide) ?_
        refine lv_idiv hx hb dX12_reads_28 (by decide) ?_
        refine lv_topi (fun x_150 ex_150 => ?_)
        have hx_150 : x_150.toInt = y_86.toInt / 3 := by rw [ex_150, dv_I (by omega) (by rw [ti_3]; omega), ti_3]
        have bx_150 : (0 ≤ x_150.toInt ∧ x_150.toInt ≤ 7) := by constructor <;> omega
        refine lv_ishr hx hb dX12_reads_29 ?_
        refine lv_topi (fun x_151 ex_151 => ?_)
        have bx_151 : ((-2147483648) ≤ x_151.toInt ∧ x_151.toInt ≤ 2147483647) := ⟨i32_lo _, i32_hi _⟩
        refine lv_iconst (v := 1) hx hb dX12_reads_30 (by decide) ?_
        refine lv_iand hx hb dX12_reads_31 ?_
        refine lv_topi (fun x_152 ex_152 => ?_)
        have bx_152 : (0 ≤ x_152.toInt ∧ x_152.toInt ≤ 1) := by rw [ex_152]; have h8 := an_C x_151 (m := 1) (by decide); rw [ti_1] at h8; exact h8
        refine lv_if_eq (tgt := 169) hx hb dX12_reads_32 (by decide) (fun c_153 => ?_) (fun c_153 => ?_)
        · skip
          rw [← Int32.toInt_inj, ti_0] at c_153
          obtain ⟨x_154, ex_154⟩ : ∃ y : Int32, y_86 + 1 = y := ⟨_, rfl⟩
          have hx_154 : x_154.toInt = y_86.toInt + 1 := by rw [← ex_154, ad_I (by rw [ti_1]; omega) (by rw [ti_1]; omega), ti_1]
          have bx_154 : (1 ≤ x_154.toInt ∧ x_154.toInt ≤ 24) := by constructor <;> omega
          refine lv_iinc (v := x_154) (lv' := [(4, .int x_154), (0, .ref o0), (1, .int p1), (2, .int p2), (3, .int p3)]) hx hb dX12_reads_169 hl (k := 0) rfl ex_154 (by decide) rfl (fun ls hl => ?_)
          refine lv_goto (tgt := 10) hx hb dX12_reads_172 (by decide) ?_
          exact ih_hloop_85 x_154 (by constructor <;> omega) f_88 hG _ _ hP hS hD hfr0 hfo_89 hfo_90 (by omega) ls (lv_sub hl [0, 1, 2, 3, 4] rfl)
        · skip
          rw [← Int32.toInt_inj, ti_0] at c_153
          refine lv_iload hx hb dX12_reads_35 (lv_at hl 0 rfl) ?_
          refine lv_iconst (v := 3) hx hb dX12_reads_37 (by decide) ?_
          refine lv_irem hx hb dX12_reads_38 (by decide) ?_
          refine lv_topi (fun x_155 ex_155 => ?_)
          have hx_155 : x_155.toInt = y_86.toInt % 3 := by rw [ex_155, rm_I (by omega) (by rw [ti_3]; omega), ti_3]
          have bx_155 : (0 ≤ x_155.toInt ∧ x_155.toInt ≤ 2) := by constructor <;> omega
          refine lv_aload_n hx hb dX12_reads_39 rfl (lv_at hl 1 rfl) ?_
          refine lv_iload hx hb dX12_reads_40 (lv_at hl 0 rfl) ?_
          refine lv_iconst (v := 3) hx hb dX12_reads_42 (by decide) ?_
          refine lv_idiv hx hb dX12_reads_43 (by decide) ?_
          refine lv_topi (fun x_156 ex_156 => ?_)
          have hx_156 : x_156.toInt = y_86.toInt / 3 := by rw [ex_156, dv_I (by omega) (by rw [ti_3]; omega), ti_3]
          have bx_156 : (0 ≤ x_156.toInt ∧ x_156.toInt ≤ 7) := by constructor <;> omega
          refine lv_iconst (v := 3) hx hb dX12_reads_44 (by decide) ?_
          refine tk_ViP (As := [.int x_156, .int 3]) (rest := [.int x_155]) (n := 2) hx hb hml hown hU hN hZ (s_X12_ofRule_k12_c3_3 l (dC, dI) cI cL cZ cR cG cH Z kd L f_88 hG o0 mo0 ko0 x_156 (by constructor <;> omega)) wd_894 wd_895 wd_896 wd_5 wd_897 (by decide +kernel) ⟨Nat.le_of_ble_eq_true rfl, Nat.le_of_ble_eq_true rfl⟩ hK hP hD hS mo0 hfo_89 12 rfl rfl rfl hl.1 rfl (Nat.le_of_ble_eq_true rfl) dX12_reads_45 ⟨Nat.le_of_ble_eq_true rfl, Nat.le_of_ble_eq_true rfl⟩ (fun x_157 f_158 H locs hw hP hD hS => ?_)
          obtain ⟨rfl, bx_157⟩ := hw
          refine lv_icmp_lt (tgt := 54) hx hb dX12_reads_48 (by decide) (fun c_160 => ?_) (fun c_160 => ?_)
          · skip
            rw [Int32.lt_iff_toInt_lt] at c_160
            refine lv_aload_n hx hb dX12_reads_54 rfl (lv_at hl 1 rfl) ?_
            refine tk_getP (D := (dC, dI)) (ci := 12) (v := .ref a_17) (C := RX12) (T := TX12) (N := 56) hx hb hU inlX12 hown hK hP mo0 hfo_89 rfl 15 (by decide) (hU _ wd_175) (fun _ h9 => h9) rfl dX12_reads_55 ?_
            refine lv_iload_n hx hb dX12_reads_58 rfl (lv_at hl 2 rfl) ?_
            refine lv_iconst (v := 1) hx hb dX12_reads_59 (by decide) ?_
            refine lv_iadd hx hb dX12_reads_60 ?_
            refine lv_topi (fun x_161 ex_161 => ?_)
            have hx_161 : x_161.toInt = p1.toInt + 1 := by rw [ex_161, ad_I (by rw [ti_1]; omega) (by rw [ti_1]; omega), ti_1]
            have bx_161 : (1 ≤ x_161.toInt ∧ x_161.toInt ≤ 14) := by constructor <;> omega
            obtain ⟨g_163, hfo_162, hbg_163⟩ := un_580 (hG _ ma_17) ka_17
            obtain ⟨a_164, hga_164, ma_164, ka_164⟩ := hbg_163 (Int32.toNatClampNeg x_161) (in_lt (vp_in_iff.mpr (by constructor <;> omega)))
            refine tk_aldA hx hb hK hP 4 ma_17 hfo_162 rfl (vp_in_iff.mpr (by constructor <;> omega)) hga_164 dX12_reads_61 ?_
            refine lv_iload hx hb dX12_reads_62 (lv_at hl 0 rfl) ?_
            refine lv_aload_n hx hb dX12_reads_64 rfl (lv_at hl 1 rfl) ?_
            refine lv_iload hx hb dX12_reads_65 (lv_at hl 0 rfl) ?_
            refine lv_iconst (v := 0) hx hb dX12_reads_67 (by decide) ?_
            refine lv_aload_n hx hb dX12_reads_68 rfl (lv_at hl 1 rfl) ?_
            refine tk_getP (D := (dC, dI)) (ci := 12) (v := .ref a_17) (C := RX12) (T := TX12) (N := 56) hx hb hU inlX12 hown hK hP mo0 hfo_89 rfl 15 (by decide) (hU _ wd_175) (fun _ h9 => h9) rfl dX12_reads_69 ?_
            refine lv_iload_n hx hb dX12_reads_72 rfl (lv_at hl 2 rfl) ?_
            obtain ⟨a_165, hga_165, ma_165, ka_165⟩ := hbg_163 (Int32.toNatClampNeg p1) (in_lt (vp_in_iff.mpr (by constructor <;> omega)))
            refine tk_aldA hx hb hK hP 4 ma_17 hfo_162 rfl (vp_in_iff.mpr (by constructor <;> omega)) hga_165 dX12_reads_73 ?_
            refine lv_iload hx hb dX12_reads_74 (lv_at hl 0 rfl) ?_
            obtain ⟨g_167, hfo_166, hbg_167⟩ := un_579 (hG _ ma_165) ka_165
            refine tk_ildP hx hb hK hP 0 ma_165 hfo_166 rfl (vp_in_iff.mpr (by constructor <;> omega)) dX12_reads_76 ?_
            refine lv_topi (fun x_168 ex_168 => ?_)
            have bx_168 : ((-2147483648) ≤ x_168.toInt ∧ x_168.toInt ≤ 2147483647) := ⟨i32_lo _, i32_hi _⟩
            refine lv_iload_n hx hb dX12_reads_77 rfl (lv_at hl 3 rfl) ?_
            refine tk_ViP (As := [.int y_86, .int 0, .int x_168, .int p2]) (rest := [.int y_86, .ref a_164]) (n := 4) hx hb hml hown hU hN hZ (s_X12_goesOn_k12 l (dC, dI) cI cL cZ cR cG cH Z kd L f_88 hG o0 mo0 ko0 y_86 (by constructor <;> omega) 0 (by decide) x_168 p2) wd_942 wd_943 wd_944 wd_5 wd_945 (by decide +kernel) ⟨Nat.le_of_ble_eq_true rfl, Nat.le_of_ble_eq_true rfl⟩ hK hP hD hS mo0 hfo_89 12 rfl rfl rfl hl.1 rfl (Nat.le_of_ble_eq_true rfl) dX12_reads_78 ⟨Nat.le_of_ble_eq_true rfl, Nat.le_of_ble_eq_true rfl⟩ (fun x_169 f_170 H locs hw hP hD hS => ?_)
            obtain ⟨rfl, bx_169⟩ := hw
            refine lv_aload_n hx hb dX12_reads_81 rfl (lv_at hl 1 rfl) ?_
            refine lv_iload hx hb dX12_reads_82 (lv_at hl 0 rfl) ?_
            refine lv_iconst (v := 0) hx hb dX12_reads_84 (by decide) ?_
            refine tk_ViP (As := [.int y_86, .int 0]) (rest := [.int x_169, .int y_86, .ref a_164]) (n := 2) hx hb hml hown hU hN hZ (s_X12_isAnchored_k12 l (dC, dI) cI cL cZ cR cG cH Z kd L f_88 hG o0 mo0 ko0 y_86 (by constructor <;> omega) 0 (by decide)) wd_946 wd_947 wd_948 wd_5 wd_949 (by decide +kernel) ⟨Nat.le_of_ble_eq_true rfl, Nat.le_of_ble_eq_true rfl⟩ hK hP hD hS mo0 hfo_89 12 rfl rfl rfl hl.1 rfl (Nat.le_of_ble_eq_true rfl) dX12_reads_85 ⟨Nat.le_of_ble_eq_true rfl, Nat.le_of_ble_eq_true rfl⟩ (fun x_172 f_173 H locs hw hP hD hS => ?_)
            obtain ⟨rfl, bx_172⟩ := hw
            refine lv_if_eq (tgt := 95) hx hb dX12_reads_88 (by decide) (fun c_175 => ?_) (fun c_175 => ?_)
            · skip
              rw [← Int32.toInt_inj, ti_0] at c_175
              refine lv_aload_n hx hb dX12_reads_95 rfl (lv_at hl 1 rfl) ?_
              refine lv_iload hx hb dX12_reads_96 (lv_at hl 0 rfl) ?_
              refine lv_iconst (v := 0) hx hb dX12_reads_98 (by decide) ?_
              refine lv_iconst (v := 1) hx hb dX12_reads_99 (by decide) ?_
              refine tk_ViP (As := [.int y_86, .int 0, .int 1]) (rest := [.int x_169, .int y_86, .ref a_164]) (n := 3) hx hb hml hown hU hN hZ (s_X12_closed_k12 l (dC, dI) cI cL cZ cR cG cH Z kd L f_88 hG o0 mo0 ko0 y_86 (by constructor <;> omega) 0 (by decide) 1 (by decide)) wd_878 wd_879 wd_880 wd_5 wd_881 (by decide +kernel) ⟨Nat.le_of_ble_eq_true rfl, Nat.le_of_ble_eq_true rfl⟩ hK hP hD hS mo0 hfo_89 12 rfl rfl rfl hl.1 rfl (Nat.le_of_ble_eq_true rfl) dX12_reads_100 ⟨Nat.le_of_ble_eq_true rfl, Nat.le_of_ble_eq_true rfl⟩ (fun x_176 f_177 H locs hw hP hD hS => ?_)
              obtain ⟨rfl, bx_176⟩ := hw
              refine lv_ior hx hb dX12_reads_103 ?_
              refine lv_topi (fun x_179 ex_179 => ?_)
              have bx_179 : (0 ≤ x_179.toInt ∧ x_179.toInt ≤ 63) := by rw [ex_179]; exact or_K 6 (by decide) (by constructor <;> omega) (by constructor <;> omega)
              obtain ⟨g_181, hfo_180, hbg_181⟩ := un_579 (hG _ ma_164) ka_164
              refine tk_istP hx hb hK hP hD hS 0 ma_164 hfo_180 rfl (vp_in_iff.mpr (by constructor <;> omega)) dX12_reads_104 (fun H locs hP hD hS => ?_)
              obtain ⟨f_183, ef_183⟩ : ∃ y : Nat → va_E, y = va_up f_88 a_164 (.inl (cI, 24, .inl (upd g_181 (Int32.toNatClampNeg y_86) x_179))) := ⟨_, rfl⟩
              have hP : va_P (dC, dI) vwCl (va_pl L f_183) H := by rw [ef_183]; exact hP
              have hD : va_D (fun q => q ∈ L) (va_pl L f_183) := by rw [ef_183]; exact hD
              have hG : GI (okc cI cL cZ cR cG cH L kd) kd L f_183 := by rw [ef_183]; exact hG.set a_164 (mk_579 ka_164 ⟨_, rfl, okI_up hbg_181 ⟨i32_lo _, i32_hi _⟩ _⟩)
              have hfo_184 : f_183 o0 = .inr (12, [.ref a_2, .ref a_3, .ref a_4, .int v_5, .ref a_6, .int v_7, .int v_8, .int v_9, .int v_10, .int v_11, .int v_12, .int v_13, .int v_14, .int v_15, .int v_16, .ref a_17, .ref a_18, .ref a_19, .ref a_20, .ref a_21, .ref a_22, .ref a_23, .ref a_24, .int v_25, .int v_26, .int v_27, .int v_28, .int v_29, .ref a_30, .int v_31, .ref a_32, .ref a_33, .int v_34, .int v_35, .ref a_36, .int v_37, .ref a_38, .ref a_39, .int v_40, .int v_41, .ref a_42, .ref a_43, .ref a_44, .int v_45, .ref a_46, .ref a_47, .ref a_48, .ref a_49, .ref a_50, .ref a_51, .ref a_52, .ref a_53, .ref a_54, .int v_55, .int v_56, .ref a_57]) := by rw [ef_183, up_ne (kd_ne ka_164 ko0 (by decide))]; exact hfo_89
              have hfo_185 : f_183 a_21 = .inl (cI, 20, .inl g_59) := by rw [ef_183, up_ne (kd_ne ka_164 ka_21 (by decide))]; exact hfo_90
              have hfo_186 : f_183 a_2 = .inl (cI, 1560, .inl g_92) := by rw [ef_183, up_ne (kd_ne ka_164 ka_2 (by decide))]; exact hfo_91
              have hfo_187 : f_183 a_17 = .inl (cG, 20, .inr (.inr (.inr (.inr g_163)))) := by rw [ef_183, up_ne (kd_ne ka_164 ka_17 (by decide))]; exact hfo_162
              have hfr0 : ∀ b, kd b ≠ 579 → kd b ≠ 581 → kd b ≠ 583 → kd b ≠ 585 → kd b ≠ 587 → kd b ≠ 588 → f_183 b = f b := fun b q579 q581 q583 q585 q587 q588 => (congrFun ef_183 b).trans ((up_ne (fun e9 => q579 (by rw [e9]; exact ka_164))).trans (hfr0 b q579 q581 q583 q585 q587 q588))
              have hfo_188 : f_183 a_164 = .inl (cI, 24, .inl (upd g_181 (Int32.toNatClampNeg y_86) x_179)) := by rw [ef_183]; exact up_self
              refine lv_aload_n hx hb dX12_reads_105 rfl (lv_at hl 1 rfl) ?_
              refine tk_getP (D := (dC, dI)) (ci := 12) (v := .ref a_18) (C := RX12) (T := TX12) (N := 56) hx hb hU inlX12 hown hK hP mo0 hfo_184 rfl 16 (by decide) (hU _ wd_176) (fun _ h9 => h9) rfl dX12_reads_106 ?_
              refine lv_iload_n hx hb dX12_reads_109 rfl (lv_at hl 2 rfl) ?_
              refine lv_iconst (v := 1) hx hb dX12_reads_110 (by decide) ?_
              refine lv_iadd hx hb dX12_reads_111 ?_
              refine lv_topi (fun x_189 ex_189 => ?_)
              have hx_189 : x_189.toInt = p1.toInt + 1 := by rw [ex_189, ad_I (by rw [ti_1]; omega) (by rw [ti_1]; omega), ti_1]
              have bx_189 : (1 ≤ x_189.toInt ∧ x_189.toInt ≤ 14) := by constructor <;> omega
              obtain ⟨g_191, hfo_190, hbg_191⟩ := un_582 (hG _ ma_18) ka_18
              obtain ⟨a_192, hga_192, ma_192, ka_192⟩ := hbg_191 (Int32.toNatClampNeg x_189) (in_lt (vp_in_iff.mpr (by constructor <;> omega)))
              refine tk_aldA hx hb hK hP 4 ma_18 hfo_190 rfl (vp_in_iff.mpr (by constructor <;> omega)) hga_192 dX12_reads_112 ?_
              refine lv_iload hx hb dX12_reads_113 (lv_at hl 0 rfl) ?_
              refine lv_aload_n hx hb dX12_reads_115 rfl (lv_at hl 1 rfl) ?_
              refine lv_iload hx hb dX12_reads_116 (lv_at hl 0 rfl) ?_
              refine lv_iconst (v := 1) hx hb dX12_reads_118 (by decide) ?_
              refine lv_aload_n hx hb dX12_reads_119 rfl (lv_at hl 1 rfl) ?_
              refine tk_getP (D := (dC, dI)) (ci := 12) (v := .ref a_18) (C := RX12) (T := TX12) (N := 56) hx hb hU inlX12 hown hK hP mo0 hfo_184 rfl 16 (by decide) (hU _ wd_176) (fun _ h9 => h9) rfl dX12_reads_120 ?_
              refine lv_iload_n hx hb dX12_reads_123 rfl (lv_at hl 2 rfl) ?_
              obtain ⟨a_193, hga_193, ma_193, ka_193⟩ := hbg_191 (Int32.toNatClampNeg p1) (in_lt (vp_in_iff.mpr (by constructor <;> omega)))
              refine tk_aldA hx hb hK hP 4 ma_18 hfo_190 rfl (vp_in_iff.mpr (by constructor <;> omega)) hga_193 dX12_reads_124 ?_
              refine lv_iload hx hb dX12_reads_125 (lv_at hl 0 rfl) ?_
              obtain ⟨g_195, hfo_194, hbg_195⟩ := un_581 (hG _ ma_193) ka_193
              refine tk_ildP hx hb hK hP 0 ma_193 hfo_194 rfl (vp_in_iff.mpr (by constructor <;> omega)) dX12_reads_127 ?_
              refine lv_topi (fun x_196 ex_196 => ?_)
              have bx_196 : ((-2147483648) ≤ x_196.toInt ∧ x_196.toInt ≤ 2147483647) := ⟨i32_lo _, i32_hi _⟩
              refine lv_iload_n hx hb dX12_reads_128 rfl (lv_at hl 3 rfl) ?_
              refine tk_ViP (As := [.int y_86, .int 1, .int x_196, .int p2]) (rest := [.int y_86, .ref a_192]) (n := 4) hx hb hml hown hU hN hZ (s_X12_goesOn_k12 l (dC, dI) cI cL cZ cR cG cH Z kd L f_183 hG o0 mo0 ko0 y_86 (by constructor <;> omega) 1 (by decide) x_196 p2) wd_942 wd_943 wd_944 wd_5 wd_945 (by decide +kernel) ⟨Nat.le_of_ble_eq_true rfl, Nat.le_of_ble_eq_true rfl⟩ hK hP hD hS mo0 hfo_184 12 rfl rfl rfl hl.1 rfl (Nat.le_of_ble_eq_true rfl) dX12_reads_129 ⟨Nat.le_of_ble_eq_true rfl, Nat.le_of_ble_eq_true rfl⟩ (fun x_197 f_198 H locs hw hP hD hS => ?_)
              obtain ⟨rfl, bx_197⟩ := hw
              obtain ⟨g_201, hfo_200, hbg_201⟩ := un_581 (hG _ ma_192) ka_192
              refine tk_istP hx hb hK hP hD hS 0 ma_192 hfo_200 rfl (vp_in_iff.mpr (by constructor <;> omega)) dX12_reads_132 (fun H locs hP hD hS => ?_)
              obtain ⟨f_203, ef_203⟩ : ∃ y : Nat → va_E, y = va_up f_183 a_192 (.inl (cI, 24, .inl (upd g_201 (Int32.toNatClampNeg y_86) x_197))) := ⟨_, rfl⟩
              have hP : va_P (dC, dI) vwCl (va_pl L f_203) H := by rw [ef_203]; exact hP
              have hD : va_D (fun q => q ∈ L) (va_pl L f_203) := by rw [ef_203]; exact hD
              have hG : GI (okc cI cL cZ cR cG cH L kd) kd L f_203 := by rw [ef_203]; exact hG.set a_192 (mk_581 ka_192 ⟨_, rfl, okI_up hbg_201 ⟨i32_lo _, i32_hi _⟩ _⟩)
              have hfo_204 : f_203 o0 = .inr (12, [.ref a_2, .ref a_3, .ref a_4, .int v_5, .ref a_6, .int v_7, .int v_8, .int v_9, .int v_10, .int v_11, .int v_12, .int v_13, .int v_14, .int v_15, .int v_16, .ref a_17, .ref a_18, .ref a_19, .ref a_20, .ref a_21, .ref a_22, .ref a_23, .ref a_24, .int v_25, .int v_26, .int v_27, .int v_28, .int v_29, .ref a_30, .int v_31, .ref a_32, .ref a_33, .int v_34, .int v_35, .ref a_36, .int v_37, .ref a_38, .ref a_39, .int v_40, .int v_41, .ref a_42, .ref a_43, .ref a_44, .int v_45, .ref a_46, .ref a_47, .ref a_48, .ref a_49, .ref a_50, .ref a_51, .ref a_52, .ref a_53, .ref a_54, .int v_55, .int v_56, .ref a_57]) := by rw [ef_203, up_ne (kd_ne ka_192 ko0 (by decide))]; exact hfo_184
              have hfo_205 : f_203 a_21 = .inl (cI, 20, .inl g_59) := by rw [ef_203, up_ne (kd_ne ka_192 ka_21 (by decide))]; exact hfo_185
              have hfo_206 : f_203 a_2 = .inl (cI, 1560, .inl g_92) := by rw [ef_203, up_ne (kd_ne ka_192 ka_2 (by decide))]; exact hfo_186
              have hfo_207 : f_203 a_17 = .inl (cG, 20, .inr (.inr (.inr (.inr g_163)))) := by rw [ef_203, up_ne (kd_ne ka_192 ka_17 (by decide))]; exact hfo_187
              have hfo_208 : f_203 a_18 = .inl (cG, 20, .inr (.inr (.inr (.inr g_191)))) := by rw [ef_203, up_ne (kd_ne ka_192 ka_18 (by decide))]; exact hfo_190
              have hfr0 : ∀ b, kd b ≠ 579 → kd b ≠ 581 → kd b ≠ 583 → kd b ≠ 585 → kd b ≠ 587 → kd b ≠ 588 → f_203 b = f b := fun b q579 q581 q583 q585 q587 q588 => (congrFun ef_203 b).trans ((up_ne (fun e9 => q581 (by rw [e9]; exact ka_192))).trans (hfr0 b q579 q581 q583 q585 q587 q588))
              have hfo_209 : f_203 a_192 = .inl (cI, 24, .inl (upd g_201 (Int32.toNatClampNeg y_86) x_197)) := by rw [ef_203]; exact up_self
              refine lv_aload_n hx hb dX12_reads_133 rfl (lv_at hl 1 rfl) ?_
              refine tk_getP (D := (dC, dI)) (ci := 12) (v := .ref a_18) (C := RX12) (T := TX12) (N := 56) hx hb hU inlX12 hown hK hP mo0 hfo_204 rfl 16 (by decide) (hU _ wd_176) (fun _ h9 => h9) rfl dX12_reads_134 ?_
              refine lv_iload_n hx hb dX12_reads_137 rfl (lv_at hl 2 rfl) ?_
              refine lv_iconst (v := 1) hx hb dX12_reads_138 (by decide) ?_
              refine lv_iadd hx hb dX12_reads_139 ?_
              refine lv_topi (fun x_210 ex_210 => ?_)
              have hx_210 : x_210.toInt = p1.toInt + 1 := by rw [ex_210, ad_I (by rw [ti_1]; omega) (by rw [ti_1]; omega), ti_1]
              have bx_210 : (1 ≤ x_210.toInt ∧ x_210.toInt ≤ 14) := by constructor <;> omega
              obtain ⟨a_211, hga_211, ma_211, ka_211⟩ := hbg_191 (Int32.toNatClampNeg x_210) (in_lt (vp_in_iff.mpr (by constructor <;> omega)))
              refine tk_aldA hx hb hK hP 4 ma_18 hfo_208 rfl (vp_in_iff.mpr (by constructor <;> omega)) hga_211 dX12_reads_140 ?_
              refine lv_iload hx hb dX12_reads_141 (lv_at hl 0 rfl) ?_
              obtain ⟨g_213, hfo_212, hbg_213⟩ := un_581 (hG _ ma_211) ka_211
              refine tk_ildP hx hb hK hP 0 ma_211 hfo_212 rfl (vp_in_iff.mpr (by constructor <;> omega)) dX12_reads_143 ?_
              refine lv_topi (fun x_214 ex_214 => ?_)
              have bx_214 : ((-2147483648) ≤ x_214.toInt ∧ x_214.toInt ≤ 2147483647) := ⟨i32_lo _, i32_hi _⟩
              refine lv_if_eq (tgt := 169) hx hb dX12_reads_144 (by decide) (fun c_215 => ?_) (fun c_215 => ?_)
              · skip
                rw [← Int32.toInt_inj, ti_0] at c_215
                obtain ⟨x_216, ex_216⟩ : ∃ y : Int32, y_86 + 1 = y := ⟨_, rfl⟩
                have hx_216 : x_216.toInt = y_86.toInt + 1 := by rw [← ex_216, ad_I (by rw [ti_1]; omega) (by rw [ti_1]; omega), ti_1]
                have bx_216 : (1 ≤ x_216.toInt ∧ x_216.toInt ≤ 24) := by constructor <;> omega
                refine lv_iinc (v := x_216) (lv' := [(4, .int x_216), (0, .ref o0), (1, .int p1), (2, .int p2), (3, .int p3)]) hx hb dX12_reads_169 hl (k := 0) rfl ex_216 (by decide) rfl (fun ls hl => ?_)
                refine lv_goto (tgt := 10) hx hb dX12_reads_172 (by decide) ?_
                exact ih_hloop_85 x_216 (by constructor <;> omega) f_203 hG _ _ hP hS hD hfr0 hfo_204 hfo_205 (by omega) ls (lv_sub hl [0, 1, 2, 3, 4] rfl)
              · skip
                rw [← Int32.toInt_inj, ti_0] at c_215
                refine lv_aload_n hx hb dX12_reads_147 rfl (lv_at hl 1 rfl) ?_
                refine lv_iload hx hb dX12_reads_148 (lv_at hl 0 rfl) ?_
                refine lv_aload_n hx hb dX12_reads_150 rfl (lv_at hl 1 rfl) ?_
                refine tk_getP (D := (dC, dI)) (ci := 12) (v := .ref a_18) (C := RX12) (T := TX12) (N := 56) hx hb hU inlX12 hown hK hP mo0 hfo_204 rfl 16 (by decide) (hU _ wd_176) (fun _ h9 => h9) rfl dX12_reads_151 ?_
                refine lv_iload_n hx hb dX12_reads_154 rfl (lv_at hl 2 rfl) ?_
                refine lv_iconst (v := 1) hx hb dX12_reads_155 (by decide) ?_
                refine lv_iadd hx hb dX12_reads_156 ?_
                refine lv_topi (fun x_217 ex_217 => ?_)
                have hx_217 : x_217.toInt = p1.toInt + 1 := by rw [ex_217, ad_I (by rw [ti_1]; omega) (by rw [ti_1]; omega), ti_1]
                have bx_217 : (1 ≤ x_217.toInt ∧ x_217.toInt ≤ 14) := by constructor <;> omega
                obtain ⟨a_218, hga_218, ma_218, ka_218⟩ := hbg_191 (Int32.toNatClampNeg x_217) (in_lt (vp_in_iff.mpr (by constructor <;> omega)))
                refine tk_aldA hx hb hK hP 4 ma_18 hfo_208 rfl (vp_in_iff.mpr (by constructor <;> omega)) hga_218 dX12_reads_157 ?_
                refine lv_iload hx hb dX12_reads_158 (lv_at hl 0 rfl) ?_
                obtain ⟨g_220, hfo_219, hbg_220⟩ := un_581 (hG _ ma_218) ka_218
                refine tk_ildP hx hb hK hP 0 ma_218 hfo_219 rfl (vp_in_iff.mpr (by constructor <;> omega)) dX12_reads_160 ?_
                refine lv_topi (fun x_221 ex_221 => ?_)
                have bx_221 : ((-2147483648) ≤ x_221.toInt ∧ x_221.toInt ≤ 2147483647) := ⟨i32_lo _, i32_hi _⟩
                refine tk_ViP (As := [.int y_86, .int x_221]) (rest := []) (n := 2) hx hb hml hown hU hN hZ (s_X12_isMet_k12 l (dC, dI) cI cL cZ cR cG cH Z kd L f_203 hG o0 mo0 ko0 y_86 (by constructor <;> omega) x_221) wd_954 wd_955 wd_956 wd_5 wd_957 (by decide +kernel) ⟨Nat.le_of_ble_eq_true rfl, Nat.le_of_ble_eq_true rfl⟩ hK hP hD hS mo0 hfo_204 12 rfl rfl rfl hl.1 rfl (Nat.le_of_ble_eq_true rfl) dX12_reads_161 ⟨Nat.le_of_ble_eq_true rfl, Nat.le_of_ble_eq_true rfl⟩ (fun x_222 f_223 H locs hw hP hD hS => ?_)
                obtain ⟨rfl, bx_222⟩ := hw
                refine lv_if_eq (tgt := 169) hx hb dX12_reads_164 (by decide) (fun c_225 => ?_) (fun c_225 => ?_)
                · skip
                  rw [← Int32.toInt_inj, ti_0] at c_225
                  obtain ⟨x_226, ex_226⟩ : ∃ y : Int32, y_86 + 1 = y := ⟨_, rfl⟩
                  have hx_226 : x_226.toInt = y_86.toInt + 1 := by rw [← ex_226, ad_I (by rw [ti_1]; omega) (by rw [ti_1]; omega), ti_1]
                  have bx_226 : (1 ≤ x_226.toInt ∧ x_226.toInt ≤ 24) := by constructor <;> omega
                  refine lv_iinc (v := x_226) (lv' := [(4, .int x_226), (0, .ref o0), (1, .int p1), (2, .int p2), (3, .int p3)]) hx hb dX12_reads_169 hl (k := 0) rfl ex_226 (by decide) rfl (fun ls hl => ?_)
                  refine lv_goto (tgt := 10) hx hb dX12_reads_172 (by decide) ?_
                  exact ih_hloop_85 x_226 (by constructor <;> omega) f_203 hG _ _ hP hS hD hfr0 hfo_204 hfo_205 (by omega) ls (lv_sub hl [0, 1, 2, 3, 4] rfl)
                · skip
                  rw [← Int32.toInt_inj, ti_0] at c_225
                  refine lv_iconst (v := 0) hx hb dX12_reads_167 (by decide) ?_
                  exact W.zret (v := 0) (ty := .boolean) hx hb hr rfl (fun t ht hW => ⟨⟨0, f_203, rfl, ⟨hG, (by decide), hfr0⟩, by rw [ht]; exact hP, va_K.moved hW.alike hK, pl_in hD⟩, hS.F ht⟩) hS.2.2 dX12_reads_168
            · skip
              rw [← Int32.toInt_inj, ti_0] at c_175
              refine lv_iconst (v := 0) hx hb dX12_reads_91 (by decide) ?_
              refine lv_goto (tgt := 103) hx hb dX12_reads_92 (by decide) ?_
              refine lv_ior hx hb dX12_reads_103 ?_
              refine lv_topi (fun x_227 ex_227 => ?_)
              have bx_227 : (0 ≤ x_227.toInt ∧ x_227.toInt ≤ 63) := by rw [ex_227]; exact or_K 6 (by decide) (by constructor <;> omega) (by decide)
              obtain ⟨g_229, hfo_228, hbg_229⟩ := un_579 (hG _ ma_164) ka_164
              refine tk_istP hx hb hK hP hD hS 0 ma_164 hfo_228 rfl (vp_in_iff.mpr (by constructor <;> omega)) dX12_reads_104 (fun H locs hP hD hS => ?_)
              obtain ⟨f_231, ef_231⟩ : ∃ y : Nat → va_E, y = va_up f_88 a_164 (.inl (cI, 24, .inl (upd g_229 (Int32.toNatClampNeg y_86) x_227))) := ⟨_, rfl⟩
              have hP : va_P (dC, dI) vwCl (va_pl L f_231) H := by rw [ef_231]; exact hP
              have hD : va_D (fun q => q ∈ L) (va_pl L f_231) := by rw [ef_231]; exact hD
              have hG : GI (okc cI cL cZ cR cG cH L kd) kd L f_231 := by rw [ef_231]; exact hG.set a_164 (mk_579 ka_164 ⟨_, rfl, okI_up hbg_229 ⟨i32_lo _, i32_hi _⟩ _⟩)
              have hfo_232 : f_231 o0 = .inr (12, [.ref a_2, .ref a_3, .ref a_4, .int v_5, .ref a_6, .int v_7, .int v_8, .int v_9, .int v_10, .int v_11, .int v_12, .int v_13, .int v_14, .int v_15, .int v_16, .ref a_17, .ref a_18, .ref a_19, .ref a_20, .ref a_21, .ref a_22, .ref a_23, .ref a_24, .int v_25, .int v_26, .int v_27, .int v_28, .int v_29, .ref a_30, .int v_31, .ref a_32, .ref a_33, .int v_34, .int v_35, .ref a_36, .int v_37, .ref a_38, .ref a_39, .int v_40, .int v_41, .ref a_42, .ref a_43, .ref a_44, .int v_45, .ref a_46, .ref a_47, .ref a_48, .ref a_49, .ref a_50, .ref a_51, .ref a_52, .ref a_53, .ref a_54, .int v_55, .int v_56, .ref a_57]) := by rw [ef_231, up_ne (kd_ne ka_164 ko0 (by decide))]; exact hfo_89
              have hfo_233 : f_231 a_21 = .inl (cI, 20, .inl g_59) := by rw [ef_231, up_ne (kd_ne ka_164 ka_21 (by decide))]; exact hfo_90
              have hfo_234 : f_231 a_2 = .inl (cI, 1560, .inl g_92) := by rw [ef_231, up_ne (kd_ne ka_164 ka_2 (by decide))]; exact hfo_91
              have hfo_235 : f_231 a_17 = .inl (cG, 20, .inr (.inr (.inr (.inr g_163)))) := by rw [ef_231, up_ne (kd_ne ka_164 ka_17 (by decide))]; exact hfo_162
              have hfr0 : ∀ b, kd b ≠ 579 → kd b ≠ 581 → kd b ≠ 583 → kd b ≠ 585 → kd b ≠ 587 → kd b ≠ 588 → f_231 b = f b := fun b q579 q581 q583 q585 q587 q588 => (congrFun ef_231 b).trans ((up_ne (fun e9 => q579 (by rw [e9]; exact ka_164))).trans (hfr0 b q579 q581 q583 q585 q587 q588))
              have hfo_236 : f_231 a_164 = .inl (cI, 24, .inl (upd g_229 (Int32.toNatClampNeg y_86) x_227)) := by rw [ef_231]; exact up_self
              refine lv_aload_n hx hb dX12_reads_105 rfl (lv_at hl 1 rfl) ?_
              refine tk_getP (D := (dC, dI)) (ci := 12) (v := .ref a_18) (C := RX12) (T := TX12) (N := 56) hx hb hU inlX12 hown hK hP mo0 hfo_232 rfl 16 (by decide) (hU _ wd_176) (fun _ h9 => h9) rfl dX12_reads_106 ?_
              refine lv_iload_n hx hb dX12_reads_109 rfl (lv_at hl 2 rfl) ?_
              refine lv_iconst (v := 1) hx hb dX12_reads_110 (by decide) ?_
              refine lv_iadd hx hb dX12_reads_111 ?_
              refine lv_topi (fun x_237 ex_237 => ?_)
              have hx_237 : x_237.toInt = p1.toInt + 1 := by rw [ex_237, ad_I (by rw [ti_1]; omega) (by rw [ti_1]; omega), ti_1]
              have bx_237 : (1 ≤ x_237.toInt ∧ x_237.toInt ≤ 14) := by constructor <;> omega
              obtain ⟨g_239, hfo_238, hbg_239⟩ := un_582 (hG _ ma_18) ka_18
              obtain ⟨a_240, hga_240, ma_240, ka_240⟩ := hbg_239 (Int32.toNatClampNeg x_237) (in_lt (vp_in_iff.mpr (by constructor <;> omega)))
              refine tk_aldA hx hb hK hP 4 ma_18 hfo_238 rfl (vp_in_iff.mpr (by constructor <;> omega)) hga_240 dX12_reads_112 ?_
              refine lv_iload hx hb dX12_reads_113 (lv_at hl 0 rfl) ?_
              refine lv_aload_n hx hb dX12_reads_115 rfl (lv_at hl 1 rfl) ?_
              refine lv_iload hx hb dX12_reads_116 (lv_at hl 0 rfl) ?_
              refine lv_iconst (v := 1) hx hb dX12_reads_118 (by decide) ?_
              refine lv_aload_n hx hb dX12_reads_119 rfl (lv_at hl 1 rfl) ?_
              refine tk_getP (D := (dC, dI)) (ci := 12) (v := .ref a_18) (C := RX12) (T := TX12) (N := 56) hx hb hU inlX12 hown hK hP mo0 hfo_232 rfl 16 (by decide) (hU _ wd_176) (fun _ h9 => h9) rfl dX12_reads_120 ?_
              refine lv_iload_n hx hb dX12_reads_123 rfl (lv_at hl 2 rfl) ?_
              obtain ⟨a_241, hga_241, ma_241, ka_241⟩ := hbg_239 (Int32.toNatClampNeg p1) (in_lt (vp_in_iff.mpr (by constructor <;> omega)))
              refine tk_aldA hx hb hK hP 4 ma_18 hfo_238 rfl (vp_in_iff.mpr (by constructor <;> omega)) hga_241 dX12_reads_124 ?_
              refine lv_iload hx hb dX12_reads_125 (lv_at hl 0 rfl) ?_
              obtain ⟨g_243, hfo_242, hbg_243⟩ := un_581 (hG _ ma_241) ka_241
              refine tk_ildP hx hb hK hP 0 ma_241 hfo_242 rfl (vp_in_iff.mpr (by constructor <;> omega)) dX12_reads_127 ?_
              refine lv_topi (fun x_244 ex_244 => ?_)
              have bx_244 : ((-2147483648) ≤ x_244.toInt ∧ x_244.toInt ≤ 2147483647) := ⟨i32_lo _, i32_hi _⟩
              refine lv_iload_n hx hb dX12_reads_128 rfl (lv_at hl 3 rfl) ?_
              refine tk_ViP (As := [.int y_86, .int 1, .int x_244, .int p2]) (rest := [.int y_86, .ref a_240]) (n := 4) hx hb hml hown hU hN hZ (s_X12_goesOn_k12 l (dC, dI) cI cL cZ cR cG cH Z kd L f_231 hG o0 mo0 ko0 y_86 (by constructor <;> omega) 1 (by decide) x_244 p2) wd_942 wd_943 wd_944 wd_5 wd_945 (by decide +kernel) ⟨Nat.le_of_ble_eq_true rfl, Nat.le_of_ble_eq_true rfl⟩ hK hP hD hS mo0 hfo_232 12 rfl rfl rfl hl.1 rfl (Nat.le_of_ble_eq_true rfl) dX12_reads_129 ⟨Nat.le_of_ble_eq_true rfl, Nat.le_of_ble_eq_true rfl⟩ (fun x_245 f_246 H locs hw hP hD hS => ?_)
              obtain ⟨rfl, bx_245⟩ := hw
              obtain ⟨g_249, hfo_248, hbg_249⟩ := un_581 (hG _ ma_240) ka_240
              refine tk_istP hx hb hK hP hD hS 0 ma_240 hfo_248 rfl (vp_in_iff.mpr (by constructor <;> omega)) dX12_reads_132 (fun H locs hP hD hS => ?_)
              obtain ⟨f_251, ef_251⟩ : ∃ y : Nat → va_E, y = va_up f_231 a_240 (.inl (cI, 24, .inl (upd g_249 (Int32.toNatClampNeg y_86) x_245))) := ⟨_, rfl⟩
              have hP : va_P (dC, dI) vwCl (va_pl L f_251) H := by rw [ef_251]; exact hP
              have hD : va_D (fun q => q ∈ L) (va_pl L f_251) := by rw [ef_251]; exact hD
              have hG : GI (okc cI cL cZ cR cG cH L kd) kd L f_251 := by rw [ef_251]; exact hG.set a_240 (mk_581 ka_240 ⟨_, rfl, okI_up hbg_249 ⟨i32_lo _, i32_hi _⟩ _⟩)
              have hfo_252 : f_251 o0 = .inr (12, [.ref a_2, .ref a_3, .ref a_4, .int v_5, .ref a_6, .int v_7, .int v_8, .int v_9, .int v_10, .int v_11, .int v_12, .int v_13, .int v_14, .int v_15, .int v_16, .ref a_17, .ref a_18, .ref a_19, .ref a_20, .ref a_21, .ref a_22, .ref a_23, .ref a_24, .int v_25, .int v_26, .int v_27, .int v_28, .int v_29, .ref a_30, .int v_31, .ref a_32, .ref a_33, .int v_34, .int v_35, .ref a_36, .int v_37, .ref a_38, .ref a_39, .int v_40, .int v_41, .ref a_42, .ref a_43, .ref a_44, .int v_45, .ref a_46, .ref a_47, .ref a_48, .ref a_49, .ref a_50, .ref a_51, .ref a_52, .ref a_53, .ref a_54, .int v_55, .int v_56, .ref a_57]) := by rw [ef_251, up_ne (kd_ne ka_240 ko0 (by decide))]; exact hfo_232
              have hfo_253 : f_251 a_21 = .inl (cI, 20, .inl g_59) := by rw [ef_251, up_ne (kd_ne ka_240 ka_21 (by decide))]; exact hfo_233
              have hfo_254 : f_251 a_2 = .inl (cI, 1560, .inl g_92) := by rw [ef_251, up_ne (kd_ne ka_240 ka_2 (by decide))]; exact hfo_234
              have hfo_255 : f_251 a_17 = .inl (cG, 20, .inr (.inr (.inr (.inr g_163)))) := by rw [ef_251, up_ne (kd_ne ka_240 ka_17 (by decide))]; exact hfo_235
              have hfo_256 : f_251 a_18 = .inl (cG, 20, .inr (.inr (.inr (.inr g_239)))) := by rw [ef_251, up_ne (kd_ne ka_240 ka_18 (by decide))]; exact hfo_238
              have hfr0 : ∀ b, kd b ≠ 579 → kd b ≠ 581 → kd b ≠ 583 → kd b ≠ 585 → kd b ≠ 587 → kd b ≠ 588 → f_251 b = f b := fun b q579 q581 q583 q585 q587 q588 => (congrFun ef_251 b).trans ((up_ne (fun e9 => q581 (by rw [e9]; exact ka_240))).trans (hfr0 b q579 q581 q583 q585 q587 q588))
              have hfo_257 : f_251 a_240 = .inl (cI, 24, .inl (upd g_249 (Int32.toNatClampNeg y_86) x_245)) := by rw [ef_251]; exact up_self
              refine lv_aload_n hx hb dX12_reads_133 rfl (lv_at hl 1 rfl) ?_
              refine tk_getP (D := (dC, dI)) (ci := 12) (v := .ref a_18) (C := RX12) (T := TX12) (N := 56) hx hb hU inlX12 hown hK hP mo0 hfo_252 rfl 16 (by decide) (hU _ wd_176) (fun _ h9 => h9) rfl dX12_reads_134 ?_
              refine lv_iload_n hx hb dX12_reads_137 rfl (lv_at hl 2 rfl) ?_
              refine lv_iconst (v := 1) hx hb dX12_reads_138 (by decide) ?_
              refine lv_iadd hx hb dX12_reads_139 ?_
              refine lv_topi (fun x_258 ex_258 => ?_)
              have hx_258 : x_258.toInt = p1.toInt + 1 := by rw [ex_258, ad_I (by rw [ti_1]; omega) (by rw [ti_1]; omega), ti_1]
              have bx_258 : (1 ≤ x_258.toInt ∧ x_258.toInt ≤ 14) := by constructor <;> omega
              obtain ⟨a_259, hga_259, ma_259, ka_259⟩ := hbg_239 (Int32.toNatClampNeg x_258) (in_lt (vp_in_iff.mpr (by constructor <;> omega)))
              refine tk_aldA hx hb hK hP 4 ma_18 hfo_256 rfl (vp_in_iff.mpr (by constructor <;> omega)) hga_259 dX12_reads_140 ?_
              refine lv_iload hx hb dX12_reads_141 (lv_at hl 0 rfl) ?_
              obtain ⟨g_261, hfo_260, hbg_261⟩ := un_581 (hG _ ma_259) ka_259
              refine tk_ildP hx hb hK hP 0 ma_259 hfo_260 rfl (vp_in_iff.mpr (by constructor <;> omega)) dX12_reads_143 ?_
              refine lv_topi (fun x_262 ex_262 => ?_)
              have bx_262 : ((-2147483648) ≤ x_262.toInt ∧ x_262.toInt ≤ 2147483647) := ⟨i32_lo _, i32_hi _⟩
              refine lv_if_eq (tgt := 169) hx hb dX12_reads_144 (by decide) (fun c_263 => ?_) (fun c_263 => ?_)
              · skip
                rw [← Int32.toInt_inj, ti_0] at c_263
                obtain ⟨x_264, ex_264⟩ : ∃ y : Int32, y_86 + 1 = y := ⟨_, rfl⟩
                have hx_264 : x_264.toInt = y_86.toInt + 1 := by rw [← ex_264, ad_I (by rw [ti_1]; omega) (by rw [ti_1]; omega), ti_1]
                have bx_264 : (1 ≤ x_264.toInt ∧ x_264.toInt ≤ 24) := by constructor <;> omega
                refine lv_iinc (v := x_264) (lv' := [(4, .int x_264), (0, .ref o0), (1, .int p1), (2, .int p2), (3, .int p3)]) hx hb dX12_reads_169 hl (k := 0) rfl ex_264 (by decide) rfl (fun ls hl => ?_)
                refine lv_goto (tgt := 10) hx hb dX12_reads_172 (by decide) ?_
                exact ih_hloop_85 x_264 (by constructor <;> omega) f_251 hG _ _ hP hS hD hfr0 hfo_252 hfo_253 (by omega) ls (lv_sub hl [0, 1, 2, 3, 4] rfl)
              · skip
                rw [← Int32.toInt_inj, ti_0] at c_263
                refine lv_aload_n hx hb dX12_reads_147 rfl (lv_at hl 1 rfl) ?_
                refine lv_iload hx hb dX12_reads_148 (lv_at hl 0 rfl) ?_
                refine lv_aload_n hx hb dX12_reads_150 rfl (lv_at hl 1 rfl) ?_
                refine tk_getP (D := (dC, dI)) (ci := 12) (v := .ref a_18) (C := RX12) (T := TX12) (N := 56) hx hb hU inlX12 hown hK hP mo0 hfo_252 rfl 16 (by decide) (hU _ wd_176) (fun _ h9 => h9) rfl dX12_reads_151 ?_
                refine lv_iload_n hx hb dX12_reads_154 rfl (lv_at hl 2 rfl) ?_
                refine lv_iconst (v := 1) hx hb dX12_reads_155 (by decide) ?_
                refine lv_iadd hx hb dX12_reads_156 ?_
                refine lv_topi (fun x_265 ex_265 => ?_)
                have hx_265 : x_265.toInt = p1.toInt + 1 := by rw [ex_265, ad_I (by rw [ti_1]; omega) (by rw [ti_1]; omega), ti_1]
                have bx_265 : (1 ≤ x_265.toInt ∧ x_265.toInt ≤ 14) := by constructor <;> omega
                obtain ⟨a_266, hga_266, ma_266, ka_266⟩ := hbg_239 (Int32.toNatClampNeg x_265) (in_lt (vp_in_iff.mpr (by constructor <;> omega)))
                refine tk_aldA hx hb hK hP 4 ma_18 hfo_256 rfl (vp_in_iff.mpr (by constructor <;> omega)) hga_266 dX12_reads_157 ?_
                refine lv_iload hx hb dX12_reads_158 (lv_at hl 0 rfl) ?_
                obtain ⟨g_268, hfo_267, hbg_268⟩ := un_581 (hG _ ma_266) ka_266
                refine tk_ildP hx hb hK hP 0 ma_266 hfo_267 rfl (vp_in_iff.mpr (by constructor <;> omega)) dX12_reads_160 ?_
                refine lv_topi (fun x_269 ex_269 => ?_)
                have bx_269 : ((-2147483648) ≤ x_269.toInt ∧ x_269.toInt ≤ 2147483647) := ⟨i32_lo _, i32_hi _⟩
                refine tk_ViP (As := [.int y_86, .int x_269]) (rest := []) (n := 2) hx hb hml hown hU hN hZ (s_X12_isMet_k12 l (dC, dI) cI cL cZ cR cG cH Z kd L f_251 hG o0 mo0 ko0 y_86 (by constructor <;> omega) x_269) wd_954 wd_955 wd_956 wd_5 wd_957 (by decide +kernel) ⟨Nat.le_of_ble_eq_true rfl, Nat.le_of_ble_eq_true rfl⟩ hK hP hD hS mo0 hfo_252 12 rfl rfl rfl hl.1 rfl (Nat.le_of_ble_eq_true rfl) dX12_reads_161 ⟨Nat.le_of_ble_eq_true rfl, Nat.le_of_ble_eq_true rfl⟩ (fun x_270 f_271 H locs hw hP hD hS => ?_)
                obtain ⟨rfl, bx_270⟩ := hw
                refine lv_if_eq (tgt := 169) hx hb dX12_reads_164 (by decide) (fun c_273 => ?_) (fun c_273 => ?_)
                · skip
                  rw [← Int32.toInt_inj, ti_0] at c_273
                  obtain ⟨x_274, ex_274⟩ : ∃ y : Int32, y_86 + 1 = y := ⟨_, rfl⟩
                  have hx_274 : x_274.toInt = y_86.toInt + 1 := by rw [← ex_274, ad_I (by rw [ti_1]; omega) (by rw [ti_1]; omega), ti_1]
                  have bx_274 : (1 ≤ x_274.toInt ∧ x_274.toInt ≤ 24) := by constructor <;> omega
                  refine lv_iinc (v := x_274) (lv' := [(4, .int x_274), (0, .ref o0), (1, .int p1), (2, .int p2), (3, .int p3)]) hx hb dX12_reads_169 hl (k := 0) rfl ex_274 (by decide) rfl (fun ls hl => ?_)
                  refine lv_goto (tgt := 10) hx hb dX12_reads_172 (by decide) ?_
                  exact ih_hloop_85 x_274 (by constructor <;> omega) f_251 hG _ _ hP hS hD hfr0 hfo_252 hfo_253 (by omega) ls (lv_sub hl [0, 1, 2, 3, 4] rfl)
                · skip
                  rw [← Int32.toInt_inj, ti_0] at c_273
                  refine lv_iconst (v := 0) hx hb dX12_reads_167 (by decide) ?_
                  exact W.zret (v := 0) (ty := .boolean) hx hb hr rfl (fun t ht hW => ⟨⟨0, f_251, rfl, ⟨hG, (by decide), hfr0⟩, by rw [ht]; exact hP, va_K.moved hW.alike hK, pl_in hD⟩, hS.F ht⟩) hS.2.2 dX12_reads_168
          · skip
            rw [Int32.lt_iff_toInt_lt] at c_160
            refine lv_goto (tgt := 169) hx hb dX12_reads_51 (by decide) ?_
            obtain ⟨x_275, ex_275⟩ : ∃ y : Int32, y_86 + 1 = y := ⟨_, rfl⟩
            have hx_275 : x_275.toInt = y_86.toInt + 1 := by rw [← ex_275, ad_I (by rw [ti_1]; omega) (by rw [ti_1]; omega), ti_1]
            have bx_275 : (1 ≤ x_275.toInt ∧ x_275.toInt ≤ 24) := by constructor <;> omega
            refine lv_iinc (v := x_275) (lv' := [(4, .int x_275), (0, .ref o0), (1, .int p1), (2, .int p2), (3, .int p3)]) hx hb dX12_reads_169 hl (k := 0) rfl ex_275 (by decide) rfl (fun ls hl => ?_)
            refine lv_goto (tgt := 10) hx hb dX12_reads_172 (by decide) ?_
            exact ih_hloop_85 x_275 (by constructor <;> omega) f_88 hG _ _ hP hS hD hfr0 hfo_89 hfo_90 (by omega) ls (lv_sub hl [0, 1, 2, 3, 4] rfl)
  exact hloop_85 25 0 (by decide) f_63 hG _ _ hP hS hD hfr0 hfo_64 hfo_65 (by (try rw [ti_0]) <;> omega) ls hl
