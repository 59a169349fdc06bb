set_option maxHeartbeats 8000000 in
set_option maxRecDepth 100000 in
theorem s_X12_reads_k12 (l : Launch) (D : va_G) (cI cL cZ cR cG cH : ClassId) (Z : zT) (kd : Nat → Nat) (L : List Nat) (f : Nat → va_E) (hG : GI (okc cI cL cZ cR cG cH L kd) kd L f) (o0 : Nat) (mo0 : o0 ∈ L) (ko0 : kd o0 = 12) (p1 : Int32) (bp1 : (0 ≤ p1.toInt ∧ p1.toInt ≤ 13)) (p2 : Int32) (p3 : Int32) : mPI l D cI cL cZ cR cG cH Z yX12_reads cX12_reads 5 (some .boolean) 4 105 [.ref o0, .int p1, .int p2, .int p3] L f (fun (r : Int32) (f9 : Nat → va_E) => GI (okc cI cL cZ cR cG cH L kd) kd L f9 ∧ (0 ≤ r.toInt ∧ r.toInt ≤ 1) ∧ (∀ b, kd b ≠ 579 → kd b ≠ 581 → kd b ≠ 583 → kd b ≠ 585 → kd b ≠ 587 → kd b ≠ 588 → f9 b = f b)) := by
  obtain ⟨dC, dI⟩ := D
  refine Met.ofW (cc := cX12_reads) (maxL := 5) (ret := (some .boolean)) (by decide) rfl ?_
  intro p e s m args below meth c s₁ B hml hv
  obtain ⟨rfl, hP, hK, hD0, hN, hZ⟩ := hv
  have hx := B.exec
  have hb := B.bytes
  have hr := B.returns
  have hU : ∀ w ∈ wsU, w.before _ s = true := fun w h => atoms_spec (ws := wU yX12_reads cX12_reads 5 (some .boolean)) B.pre w (List.mem_cons_of_mem _ h)
  have hown : s.vm.findClass RX12 = some m.cls := findClass_of_methodNamed B.named
  have hlocks := B.notSynchronized
  have hD := pl_in hD0
  have hS : va_S (fun q => q ∈ L) s.heap s.heap [] := va_S.rf
  have hl := lv_entry ([.ref o0, .int p1, .int p2, .int p3]) (n := 5) (Nat.le_of_ble_eq_true rfl)
  rw [lg_entry_eq]
  generalize (lg_sl ([.ref o0, .int p1, .int p2, .int p3]) ++ List.replicate (5 - (lg_sl ([.ref o0, .int p1, .int p2, .int p3])).length) Slot.unset).toArray = ls at hl ⊢
  have hl : lv_has ls 5 [(0, .ref o0), (1, .int p1), (2, .int p2), (3, .int p3)] := hl
  have bp2 : ((-2147483648) ≤ p2.toInt ∧ p2.toInt ≤ 2147483647) := ⟨i32_lo _, i32_hi _⟩
  have bp3 : ((-2147483648) ≤ p3.toInt ∧ p3.toInt ≤ 2147483647) := ⟨i32_lo _, i32_hi _⟩
  have hfr0 : ∀ b, kd b ≠ 579 → kd b ≠ 581 → kd b ≠ 583 → kd b ≠ 585 → kd b ≠ 587 → kd b ≠ 588 → f b = f b := fun _ _ _ _ _ _ _ => rfl
  obtain ⟨a_1, a_2, a_3, v_4, a_5, v_6, v_7, v_8, v_9, v_10, v_11, v_12, v_13, v_14, v_15, a_16, a_17, a_18, a_19, a_20, a_21, a_22, a_23, v_24, v_25, v_26, v_27, v_28, a_29, v_30, a_31, a_32, v_33, v_34, a_35, v_36, a_37, a_38, v_39, v_40, a_41, a_42, a_43, v_44, a_45, a_46, a_47, a_48, a_49, a_50, a_51, a_52, a_53, v_54, v_55, a_56, hfo_57, fa_58⟩ := un12 (hG _ mo0) ko0
  obtain ⟨ma_1, ka_1⟩ := fa12_0 fa_58
  obtain ⟨ma_16, ka_16⟩ := fa12_15 fa_58
  obtain ⟨ma_17, ka_17⟩ := fa12_16 fa_58
  obtain ⟨ma_20, ka_20⟩ := fa12_19 fa_58
  obtain ⟨ma_21, ka_21⟩ := fa12_20 fa_58
  obtain ⟨g_60, hfo_59, hbg_60⟩ := un_587 (hG _ ma_20) ka_20
  refine lv_aload_n hx hb dX12_reads_0 rfl (lv_at hl 0 rfl) ?_
  refine tk_getP (D := (dC, dI)) (ci := 12) (v := .ref a_21) (C := RX12) (T := TX12) (N := 56) hx hb hU inlX12 hown hK hP mo0 hfo_57 rfl 20 (by decide) (hU _ wd_180) (fun _ h9 => h9) rfl dX12_reads_1 ?_
  refine lv_iload_n hx hb dX12_reads_4 rfl (lv_at hl 1 rfl) ?_
  refine lv_iload_n hx hb dX12_reads_5 rfl (lv_at hl 2 rfl) ?_
  obtain ⟨g_62, hfo_61, hbg_62⟩ := un_588 (hG _ ma_21) ka_21
  refine tk_istP hx hb hK hP hD hS 0 ma_21 hfo_61 rfl (vp_in_iff.mpr (by constructor <;> omega)) dX12_reads_6 (fun H locs hP hD hS => ?_)
  obtain ⟨f_64, ef_64⟩ : ∃ y : Nat → va_E, y = va_up f a_21 (.inl (cI, 20, .inl (upd g_62 (Int32.toNatClampNeg p1) p2))) := ⟨_, rfl⟩
  have hP : va_P (dC, dI) vwCl (va_pl L f_64) H := by rw [ef_64]; exact hP
  have hD : va_D (fun q => q ∈ L) (va_pl L f_64) := by rw [ef_64]; exact hD
  have hG : GI (okc cI cL cZ cR cG cH L kd) kd L f_64 := by rw [ef_64]; exact hG.set a_21 (mk_588 ka_21 ⟨_, rfl, okI_up hbg_62 ⟨i32_lo _, i32_hi _⟩ _⟩)
  have hfo_65 : f_64 o0 = .inr (12, [.ref a_1, .ref a_2, .ref a_3, .int v_4, .ref a_5, .int v_6, .int v_7, .int v_8, .int v_9, .int v_10, .int v_11, .int v_12, .int v_13, .int v_14, .int v_15, .ref a_16, .ref a_17, .ref a_18, .ref a_19, .ref a_20, .ref a_21, .ref a_22, .ref a_23, .int v_24, .int v_25, .int v_26, .int v_27, .int v_28, .ref a_29, .int v_30, .ref a_31, .ref a_32, .int v_33, .int v_34, .ref a_35, .int v_36, .ref a_37, .ref a_38, .int v_39, .int v_40, .ref a_41, .ref a_42, .ref a_43, .int v_44, .ref a_45, .ref a_46, .ref a_47, .ref a_48, .ref a_49, .ref a_50, .ref a_51, .ref a_52, .ref a_53, .int v_54, .int v_55, .ref a_56]) := by rw [ef_64, up_ne (kd_ne ka_21 ko0 (by decide))]; exact hfo_57
  have hfo_66 : f_64 a_20 = .inl (cI, 20, .inl g_60) := by rw [ef_64, up_ne (kd_ne ka_21 ka_20 (by decide))]; exact hfo_59
  have hfr0 : ∀ b, kd b ≠ 579 → kd b ≠ 581 → kd b ≠ 583 → kd b ≠ 585 → kd b ≠ 587 → kd b ≠ 588 → f_64 b = f b := fun b q579 q581 q583 q585 q587 q588 => (congrFun ef_64 b).trans ((up_ne (fun e9 => q588 (by rw [e9]; exact ka_21))).trans (hfr0 b q579 q581 q583 q585 q587 q588))
  have hfo_67 : f_64 a_21 = .inl (cI, 20, .inl (upd g_62 (Int32.toNatClampNeg p1) p2)) := by rw [ef_64]; exact up_self
  refine lv_iconst (v := 0) hx hb dX12_reads_7 (by decide) ?_
  refine lv_istore (lv' := [(4, .int 0), (0, .ref o0), (1, .int p1), (2, .int p2), (3, .int p3)]) hx hb dX12_reads_8 hl (by decide) rfl (fun ls hl => ?_)
  have hloop_86 : ∀ (n : Nat), ∀ (y_87 : Int32), (0 ≤ y_87.toInt ∧ y_87.toInt ≤ 24) → ∀ (f_89 : Nat → va_E), GI (okc cI cL cZ cR cG cH L kd) kd L f_89 → ∀ (H : Heap) (locs : List Loc), va_P (dC, dI) vwCl (va_pl L f_89) H → va_S (fun q => q ∈ L) s.heap H locs → va_D (fun q => q ∈ L) (va_pl L f_89) → (∀ b, kd b ≠ 579 → kd b ≠ 581 → kd b ≠ 583 → kd b ≠ 585 → kd b ≠ 587 → kd b ≠ 588 → f_89 b = f b) → (f_89 o0 = .inr (12, [.ref a_1, .ref a_2, .ref a_3, .int v_4, .ref a_5, .int v_6, .int v_7, .int v_8, .int v_9, .int v_10, .int v_11, .int v_12, .int v_13, .int v_14, .int v_15, .ref a_16, .ref a_17, .ref a_18, .ref a_19, .ref a_20, .ref a_21, .ref a_22, .ref a_23, .int v_24, .int v_25, .int v_26, .int v_27, .int v_28, .ref a_29, .int v_30, .ref a_31, .ref a_32, .int v_33, .int v_34, .ref a_35, .int v_36, .ref a_37, .ref a_38, .int v_39, .int v_40, .ref a_41, .ref a_42, .ref a_43, .int v_44, .ref a_45, .ref a_46, .ref a_47, .ref a_48, .ref a_49, .ref a_50, .ref a_51, .ref a_52, .ref a_53, .int v_54, .int v_55, .ref a_56])) → (f_89 a_20 = .inl (cI, 20, .inl g_60)) → 24 - y_87.toInt < (n : Int) → ∀ (ls : Array Slot), lv_has ls 5 [(4, .int y_87), (0, .ref o0), (1, .int p1), (2, .int p2), (3, .int p3)] → W p l e (headSpec (wU yX12_reads cX12_reads 5 (some .boolean)) { frames := 4, cells := 0, slots := 0, locals := 105 }).room s m [.ref o0, .int p1, .int p2, .int p3].toArray below meth c H locs 0 0 (MQ below (va_Qi (fun (r : Int32) (f9 : Nat → va_E) => GI (okc cI cL cZ cR cG cH L kd) kd L f9 ∧ (0 ≤ r.toInt ∧ r.toInt ≤ 1) ∧ (∀ b, kd b ≠ 579 → kd b ≠ 581 → kd b ≠ 583 → kd b ≠ 585 → kd b ≠ 587 → kd b ≠ 588 → f9 b = f b)) (qP (dC, dI) cI cL cZ cR cG cH L) (fun q => q ∈ L)) [.ref o0, .int p1, .int p2, .int p3].toArray s 0 0 (fun q => q ∈ L)) (F0 m 10 ls []) := by
    intro n
    induction n with
    | zero => intro y_87 by_87 f_89 hG H locs hP hS hD hfr0 hfo_90 hfo_91 hmuhloop_86 ls hl; exfalso; omega
    | succ n ih_hloop_86 =>
      intro y_87 by_87 f_89 hG H locs hP hS hD hfr0 hfo_90 hfo_91 hmuhloop_86 ls hl
      refine lv_iload hx hb dX12_reads_10 (lv_at hl 0 rfl) ?_
      refine lv_iconst (v := 3) hx hb dX12_reads_12 (by decide) ?_
      refine lv_aload_n hx hb dX12_reads_13 rfl (lv_at hl 1 rfl) ?_
      refine tk_getP (D := (dC, dI)) (ci := 12) (v := .ref a_1) (C := RX12) (T := TX12) (N := 56) hx hb hU inlX12 hown hK hP mo0 hfo_90 rfl 0 (by decide) (hU _ wd_169) (fun _ h9 => h9) rfl dX12_reads_14 ?_
      refine lv_bipush (v := 17) hx hb dX12_reads_17 (by decide) ?_
      obtain ⟨g_93, hfo_92, hbg_93⟩ := un_575 (hG _ ma_1) ka_1
      refine tk_ildP hx hb hK hP 0 ma_1 hfo_92 rfl (vp_in_nI (n := 17) (by decide) (by decide)) dX12_reads_19 ?_
      refine lv_topi (fun x_94 ex_94 => ?_)
      have bx_94 : (0 ≤ x_94.toInt ∧ x_94.toInt ≤ 8) := by rw [ex_94]; exact hbg_93.2.2.1 _ (by decide) (by decide) (by decide)
      refine lv_imul hx hb dX12_reads_20 ?_
      refine lv_topi (fun x_95 ex_95 => ?_)
      have hx_95 : x_95.toInt = 3 * x_94.toInt := by rw [ex_95, ml_I (by rw [ti_3]; omega) (by rw [ti_3]; omega), ti_3]
      have bx_95 : (0 ≤ x_95.toInt ∧ x_95.toInt ≤ 24) := by constructor <;> omega
      refine lv_icmp_ge (tgt := 175) hx hb dX12_reads_21 (by decide) (fun c_96 => ?_) (fun c_96 => ?_)
      · skip
        rw [Int32.le_iff_toInt_le] at c_96
        refine lv_aload_n hx hb dX12_reads_175 rfl (lv_at hl 1 rfl) ?_
        refine lv_iload_n hx hb dX12_reads_176 rfl (lv_at hl 2 rfl) ?_
        refine lv_iload_n hx hb dX12_reads_177 rfl (lv_at hl 3 rfl) ?_
        refine tk_ViP (As := [.int p1, .int p2]) (rest := []) (n := 2) hx hb hml hown hU hN hZ (s_X12_needsGoOn_k12 l (dC, dI) cI cL cZ cR cG cH Z kd L f_89 hG o0 mo0 ko0 p1 (by constructor <;> omega) p2) wd_958 wd_959 wd_960 wd_5 wd_961 (by decide +kernel) ⟨Nat.le_of_ble_eq_true rfl, Nat.le_of_ble_eq_true rfl⟩ hK hP hD hS mo0 hfo_90 12 rfl rfl rfl hl.1 rfl (Nat.le_of_ble_eq_true rfl) dX12_reads_178 ⟨Nat.le_of_ble_eq_true rfl, Nat.le_of_ble_eq_true rfl⟩ (fun x_97 f_98 H locs hw hP hD hS => ?_)
        obtain ⟨hG, bx_97, hkc_99, hxp_100⟩ := hw
        have hfo_102 : f_98 o0 = .inr (12, [.ref a_1, .ref a_2, .ref a_3, .int v_4, .ref a_5, .int v_6, .int v_7, .int v_8, .int v_9, .int v_10, .int v_11, .int v_12, .int v_13, .int v_14, .int v_15, .ref a_16, .ref a_17, .ref a_18, .ref a_19, .ref a_20, .ref a_21, .ref a_22, .ref a_23, .int v_24, .int v_25, .int v_26, .int v_27, .int v_28, .ref a_29, .int v_30, .ref a_31, .ref a_32, .int v_33, .int v_34, .ref a_35, .int v_36, .ref a_37, .ref a_38, .int v_39, .int v_40, .ref a_41, .ref a_42, .ref a_43, .int v_44, .ref a_45, .ref a_46, .ref a_47, .ref a_48, .ref a_49, .ref a_50, .ref a_51, .ref a_52, .ref a_53, .int v_54, .int v_55, .ref a_56]) := by rw [hkc_99 o0 (by rw [ko0]; decide) (by rw [ko0]; decide) (by rw [ko0]; decide)]; exact hfo_90
        have hfo_103 : f_98 a_1 = .inl (cI, 1560, .inl g_93) := by rw [hkc_99 a_1 (by rw [ka_1]; decide) (by rw [ka_1]; decide) (by rw [ka_1]; decide)]; exact hfo_92
        have hfr0 : ∀ b, kd b ≠ 579 → kd b ≠ 581 → kd b ≠ 583 → kd b ≠ 585 → kd b ≠ 587 → kd b ≠ 588 → f_98 b = f b := fun b q579 q581 q583 q585 q587 q588 => (hkc_99 b q583 q585 q587).trans (hfr0 b q579 q581 q583 q585 q587 q588)
        obtain ⟨g_105, hfo_104, hbg_105⟩ := un_587 (hG _ ma_20) ka_20
        have hng := hxp_100 a_20 g_105 (by rw [hfo_102]; rfl) hfo_104
        refine lv_if_ne (tgt := 186) hx hb dX12_reads_181 (by decide) (fun c_106 => ?_) (fun c_106 => ?_)
        · skip
          rw [← Int32.toInt_inj, ti_0] at c_106
          refine lv_iconst (v := 0) hx hb dX12_reads_186 (by decide) ?_
          refine lv_istore (lv' := [(4, .int 0), (0, .ref o0), (1, .int p1), (2, .int p2), (3, .int p3)]) hx hb dX12_reads_187 hl (by decide) rfl (fun ls hl => ?_)
          have hloop_125 : ∀ (n : Nat), ∀ (y_126 : Int32), (0 ≤ y_126.toInt ∧ y_126.toInt ≤ 8) → ∀ (f_128 : Nat → va_E), GI (okc cI cL cZ cR cG cH L kd) kd L f_128 → ∀ (H : Heap) (locs : List Loc), va_P (dC, dI) vwCl (va_pl L f_128) H → va_S (fun q => q ∈ L) s.heap H locs → va_D (fun q => q ∈ L) (va_pl L f_128) → (∀ b, kd b ≠ 579 → kd b ≠ 581 → kd b ≠ 583 → kd b ≠ 585 → kd b ≠ 587 → kd b ≠ 588 → f_128 b = f b) → (f_128 o0 = .inr (12, [.ref a_1, .ref a_2, .ref a_3, .int v_4, .ref a_5, .int v_6, .int v_7, .int v_8, .int v_9, .int v_10, .int v_11, .int v_12, .int v_13, .int v_14, .int v_15, .ref a_16, .ref a_17, .ref a_18, .ref a_19, .ref a_20, .ref a_21, .ref a_22, .ref a_23, .int v_24, .int v_25, .int v_26, .int v_27, .int v_28, .ref a_29, .int v_30, .ref a_31, .ref a_32, .int v_33, .int v_34, .ref a_35, .int v_36, .ref a_37, .ref a_38, .int v_39, .int v_40, .ref a_41, .ref a_42, .ref a_43, .int v_44, .ref a_45, .ref a_46, .ref a_47, .ref a_48, .ref a_49, .ref a_50, .ref a_51, .ref a_52, .ref a_53, .int v_54, .int v_55, .ref a_56])) → (f_128 a_1 = .inl (cI, 1560, .inl g_93)) → (∀ g9, f_128 a_20 = .inl (cI, 20, .inl g9) → ∀ j : Nat, (j : Int) = p1.toInt + 1 → (g9 j).toInt ≤ 8 * p1.toInt + y_126.toInt) → 8 - y_126.toInt < (n : Int) → ∀ (ls : Array Slot), lv_has ls 5 [(4, .int y_126), (0, .ref o0), (1, .int p1), (2, .int p2), (3, .int p3)] → W p l e (headSpec (wU yX12_reads cX12_reads 5 (some .boolean)) { frames := 4, cells := 0, slots := 0, locals := 105 }).room s m [.ref o0, .int p1, .int p2, .int p3].toArray below meth c H locs 0 0 (MQ below (va_Qi (fun (r : Int32) (f9 : Nat → va_E) => GI (okc cI cL cZ cR cG cH L kd) kd L f9 ∧ (0 ≤ r.toInt ∧ r.toInt ≤ 1) ∧ (∀ b, kd b ≠ 579 → kd b ≠ 581 → kd b ≠ 583 → kd b ≠ 585 → kd b ≠ 587 → kd b ≠ 588 → f9 b = f b)) (qP (dC, dI) cI cL cZ cR cG cH L) (fun q => q ∈ L)) [.ref o0, .int p1, .int p2, .int p3].toArray s 0 0 (fun q => q ∈ L)) (F0 m 189 ls []) := by
            intro n
            induction n with
            | zero => intro y_126 by_126 f_128 hG H locs hP hS hD hfr0 hfo_129 hfo_130 hxn hmuhloop_125 ls hl; exfalso; omega
            | succ n ih_hloop_125 =>
              intro y_126 by_126 f_128 hG H locs hP hS hD hfr0 hfo_129 hfo_130 hxn hmuhloop_125 ls hl
              refine lv_iload hx hb dX12_reads_189 (lv_at hl 0 rfl) ?_
              refine lv_aload_n hx hb dX12_reads_191 rfl (lv_at hl 1 rfl) ?_
              refine tk_getP (D := (dC, dI)) (ci := 12) (v := .ref a_1) (C := RX12) (T := TX12) (N := 56) hx hb hU inlX12 hown hK hP mo0 hfo_129 rfl 0 (by decide) (hU _ wd_169) (fun _ h9 => h9) rfl dX12_reads_192 ?_
              refine lv_bipush (v := 17) hx hb dX12_reads_195 (by decide) ?_
              refine tk_ildP hx hb hK hP 0 ma_1 hfo_130 rfl (vp_in_nI (n := 17) (by decide) (by decide)) dX12_reads_197 ?_
              refine tk_topi (y := x_94) ex_94.symm ?_
              refine lv_icmp_ge (tgt := 230) hx hb dX12_reads_198 (by decide) (fun c_131 => ?_) (fun c_131 => ?_)
              · skip
                rw [Int32.le_iff_toInt_le] at c_131
                refine lv_iconst (v := 1) hx hb dX12_reads_230 (by decide) ?_
                exact W.zret (v := 1) (ty := .boolean) hx hb hr rfl (fun t ht hW => ⟨⟨1, f_128, rfl, ⟨hG, (by decide), hfr0⟩, by rw [ht]; exact hP, va_K.moved hW.alike hK, pl_in hD⟩, hS.F ht⟩) hS.2.2 dX12_reads_231
              · skip
                rw [Int32.le_iff_toInt_le] at c_131
                refine lv_iload_n hx hb dX12_reads_201 rfl (lv_at hl 4 rfl) ?_
                refine lv_iload hx hb dX12_reads_202 (lv_at hl 0 rfl) ?_
                refine lv_ishr hx hb dX12_reads_204 ?_
                refine lv_topi (fun x_132 ex_132 => ?_)
                have bx_132 : ((-2147483648) ≤ x_132.toInt ∧ x_132.toInt ≤ 2147483647) := ⟨i32_lo _, i32_hi _⟩
                refine lv_iconst (v := 1) hx hb dX12_reads_205 (by decide) ?_
                refine lv_iand hx hb dX12_reads_206 ?_
                refine lv_topi (fun x_133 ex_133 => ?_)
                have bx_133 : (0 ≤ x_133.toInt ∧ x_133.toInt ≤ 1) := by rw [ex_133]; have h8 := an_C x_132 (m := 1) (by decide); rw [ti_1] at h8; exact h8
                refine lv_iconst (v := 1) hx hb dX12_reads_207 (by decide) ?_
                refine lv_icmp_ne (tgt := 224) hx hb dX12_reads_208 (by decide) (fun c_134 => ?_) (fun c_134 => ?_)
                · skip
                  rw [← Int32.toInt_inj, ti_1] at c_134
                  obtain ⟨x_135, ex_135⟩ : ∃ y : Int32, y_126 + 1 = y := ⟨_, rfl⟩
                  have hx_135 : x_135.toInt = y_126.toInt + 1 := by rw [← ex_135, ad_I (by rw [ti_1]; omega) (by rw [ti_1]; omega), ti_1]
                  have bx_135 : (1 ≤ x_135.toInt ∧ x_135.toInt ≤ 8) := by constructor <;> omega
                  refine lv_iinc (v := x_135) (lv' := [(4, .int x_135), (0, .ref o0), (1, .int p1), (2, .int p2), (3, .int p3)]) hx hb dX12_reads_224 hl (k := 0) rfl ex_135 (by decide) rfl (fun ls hl => ?_)
                  refine lv_goto (tgt := 189) hx hb dX12_reads_227 (by decide) ?_
                  obtain ⟨g_137, hfo_136, hbg_137⟩ := un_587 (hG _ ma_20) ka_20
                  exact ih_hloop_125 x_135 (by constructor <;> omega) f_128 hG _ _ hP hS hD hfr0 hfo_129 hfo_130 (fun g9 h9 j hj => by have h8 := hxn g9 h9 j hj; omega) (by omega) ls (lv_sub hl [0, 1, 2, 3, 4] rfl)
                · skip
                  rw [← Int32.toInt_inj, ti_1] at c_134
                  refine lv_aload_n hx hb dX12_reads_211 rfl (lv_at hl 1 rfl) ?_
                  refine lv_iload hx hb dX12_reads_212 (lv_at hl 0 rfl) ?_
                  refine lv_iload_n hx hb dX12_reads_214 rfl (lv_at hl 2 rfl) ?_
                  refine lv_iload_n hx hb dX12_reads_215 rfl (lv_at hl 3 rfl) ?_
                  obtain ⟨g_139, hfo_138, hbg_139⟩ := un_587 (hG _ ma_20) ka_20
                  refine tk_ViP (As := [.int y_126, .int p1, .int p2]) (rest := []) (n := 3) hx hb hml hown hU hN hZ (s_X12_asks_k12 l (dC, dI) cI cL cZ cR cG cH Z kd L f_128 hG o0 mo0 ko0 y_126 (by constructor <;> omega) p1 (by constructor <;> omega) p2 (fun b9 g9 h1 h2 j hj => by rw [hfo_129] at h1; obtain rfl := Option.some.inj h1; have h8 := hxn g9 h2 j (by omega); omega)) wd_962 wd_963 wd_964 wd_5 wd_965 (by decide +kernel) ⟨Nat.le_of_ble_eq_true rfl, Nat.le_of_ble_eq_true rfl⟩ hK hP hD hS mo0 hfo_129 12 rfl rfl rfl hl.1 rfl (Nat.le_of_ble_eq_true rfl) dX12_reads_216 ⟨Nat.le_of_ble_eq_true rfl, Nat.le_of_ble_eq_true rfl⟩ (fun x_140 f_141 H locs hw hP hD hS => ?_)
                  obtain ⟨hG, bx_140, hkc_142, hxp_143⟩ := hw
                  have hfo_145 : f_141 o0 = .inr (12, [.ref a_1, .ref a_2, .ref a_3, .int v_4, .ref a_5, .int v_6, .int v_7, .int v_8, .int v_9, .int v_10, .int v_11, .int v_12, .int v_13, .int v_14, .int v_15, .ref a_16, .ref a_17, .ref a_18, .ref a_19, .ref a_20, .ref a_21, .ref a_22, .ref a_23, .int v_24, .int v_25, .int v_26, .int v_27, .int v_28, .ref a_29, .int v_30, .ref a_31, .ref a_32, .int v_33, .int v_34, .ref a_35, .int v_36, .ref a_37, .ref a_38, .int v_39, .int v_40, .ref a_41, .ref a_42, .ref a_43, .int v_44, .ref a_45, .ref a_46, .ref a_47, .ref a_48, .ref a_49, .ref a_50, .ref a_51, .ref a_52, .ref a_53, .int v_54, .int v_55, .ref a_56]) := by rw [hkc_142 o0 (by rw [ko0]; decide) (by rw [ko0]; decide) (by rw [ko0]; decide) (by rw [ko0]; decide)]; exact hfo_129
                  have hfo_146 : f_141 a_1 = .inl (cI, 1560, .inl g_93) := by rw [hkc_142 a_1 (by rw [ka_1]; decide) (by rw [ka_1]; decide) (by rw [ka_1]; decide) (by rw [ka_1]; decide)]; exact hfo_130
                  have hfr0 : ∀ b, kd b ≠ 579 → kd b ≠ 581 → kd b ≠ 583 → kd b ≠ 585 → kd b ≠ 587 → kd b ≠ 588 → f_141 b = f b := fun b q579 q581 q583 q585 q587 q588 => (hkc_142 b q581 q583 q585 q587).trans (hfr0 b q579 q581 q583 q585 q587 q588)
                  obtain ⟨g_148, hfo_147, hbg_148⟩ := un_587 (hG _ ma_20) ka_20
                  have hasx_140 := hxp_143 a_20 g_148 (by rw [hfo_145]; rfl) hfo_147
                  refine lv_if_ne (tgt := 224) hx hb dX12_reads_219 (by decide) (fun c_149 => ?_) (fun c_149 => ?_)
                  · skip
                    rw [← Int32.toInt_inj, ti_0] at c_149
                    obtain ⟨x_150, ex_150⟩ : ∃ y : Int32, y_126 + 1 = y := ⟨_, rfl⟩
                    have hx_150 : x_150.toInt = y_126.toInt + 1 := by rw [← ex_150, ad_I (by rw [ti_1]; omega) (by rw [ti_1]; omega), ti_1]
                    have bx_150 : (1 ≤ x_150.toInt ∧ x_150.toInt ≤ 8) := by constructor <;> omega
                    refine lv_iinc (v := x_150) (lv' := [(4, .int x_150), (0, .ref o0), (1, .int p1), (2, .int p2), (3, .int p3)]) hx hb dX12_reads_224 hl (k := 0) rfl ex_150 (by decide) rfl (fun ls hl => ?_)
                    refine lv_goto (tgt := 189) hx hb dX12_reads_227 (by decide) ?_
                    exact ih_hloop_125 x_150 (by constructor <;> omega) f_141 hG _ _ hP hS hD hfr0 hfo_145 hfo_146 (fun g9 h9 j hj => by rw [hfo_147] at h9; cases h9; have h8 := hasx_140 j hj; omega) (by omega) ls (lv_sub hl [0, 1, 2, 3, 4] rfl)
                  · skip
                    rw [← Int32.toInt_inj, ti_0] at c_149
                    refine lv_iconst (v := 0) hx hb dX12_reads_222 (by decide) ?_
                    exact W.zret (v := 0) (ty := .boolean) hx hb hr rfl (fun t ht hW => ⟨⟨0, f_141, rfl, ⟨hG, (by decide), hfr0⟩, by rw [ht]; exact hP, va_K.moved hW.alike hK, pl_in hD⟩, hS.F ht⟩) hS.2.2 dX12_reads_223
          exact hloop_125 9 0 (by decide) f_98 hG _ _ hP hS hD hfr0 hfo_102 hfo_103 (fun g9 h9 j hj => by rw [hfo_104] at h9; cases h9; have h8 := (hng.resolve_left (by omega)) j hj; have h3 : ((0 : Int32)).toInt = 0 := rfl; omega) (by (try rw [ti_0]) <;> omega) ls hl
        · skip
          rw [← Int32.toInt_inj, ti_0] at c_106
          refine lv_iconst (v := 0) hx hb dX12_reads_184 (by decide) ?_
          exact W.zret (v := 0) (ty := .boolean) hx hb hr rfl (fun t ht hW => ⟨⟨0, f_98, rfl, ⟨hG, (by decide), hfr0⟩, by rw [ht]; exact hP, va_K.moved hW.alike hK, pl_in hD⟩, hS.F ht⟩) hS.2.2 dX12_reads_185
      · skip
        rw [Int32.le_iff_toInt_le] at c_96
        refine lv_iload_n hx hb dX12_reads_24 rfl (lv_at hl 4 rfl) ?_
        refine lv_iload hx hb dX12_reads_25 (lv_at hl 0 rfl) ?_
        refine lv_iconst (v := 3) hx hb dX12_reads_27 (by decide) ?_
        refine lv_idiv hx hb dX12_reads_28 (by decide) ?_
        refine lv_topi (fun x_151 ex_151 => ?_)
        have hx_151 : x_151.toInt = y_87.toInt / 3 := by rw [ex_151, dv_I (by omega) (by rw [ti_3]; omega), ti_3]
        have bx_151 : (0 ≤ x_151.toInt ∧ x_151.toInt ≤ 7) := by constructor <;> omega
        refine lv_ishr hx hb dX12_reads_29 ?_
        refine lv_topi (fun x_152 ex_152 => ?_)
        have bx_152 : ((-2147483648) ≤ x_152.toInt ∧ x_152.toInt ≤ 2147483647) := ⟨i32_lo _, i32_hi _⟩
        refine lv_iconst (v := 1) hx hb dX12_reads_30 (by decide) ?_
        refine lv_iand hx hb dX12_reads_31 ?_
        refine lv_topi (fun x_153 ex_153 => ?_)
        have bx_153 : (0 ≤ x_153.toInt ∧ x_153.toInt ≤ 1) := by rw [ex_153]; have h8 := an_C x_152 (m := 1) (by decide); rw [ti_1] at h8; exact h8
        refine lv_if_eq (tgt := 169) hx hb dX12_reads_32 (by decide) (fun c_154 => ?_) (fun c_154 => ?_)
        · skip
          rw [← Int32.toInt_inj, ti_0] at c_154
          obtain ⟨x_155, ex_155⟩ : ∃ y : Int32, y_87 + 1 = y := ⟨_, rfl⟩
          have hx_155 : x_155.toInt = y_87.toInt + 1 := by rw [← ex_155, ad_I (by rw [ti_1]; omega) (by rw [ti_1]; omega), ti_1]
          have bx_155 : (1 ≤ x_155.toInt ∧ x_155.toInt ≤ 24) := by constructor <;> omega
          refine lv_iinc (v := x_155) (lv' := [(4, .int x_155), (0, .ref o0), (1, .int p1), (2, .int p2), (3, .int p3)]) hx hb dX12_reads_169 hl (k := 0) rfl ex_155 (by decide) rfl (fun ls hl => ?_)
          refine lv_goto (tgt := 10) hx hb dX12_reads_172 (by decide) ?_
          exact ih_hloop_86 x_155 (by constructor <;> omega) f_89 hG _ _ hP hS hD hfr0 hfo_90 hfo_91 (by omega) ls (lv_sub hl [0, 1, 2, 3, 4] rfl)
        · skip
          rw [← Int32.toInt_inj, ti_0] at c_154
          refine lv_iload hx hb dX12_reads_35 (lv_at hl 0 rfl) ?_
          refine lv_iconst (v := 3) hx hb dX12_reads_37 (by decide) ?_
          refine lv_irem hx hb dX12_reads_38 (by decide) ?_
          refine lv_topi (fun x_156 ex_156 => ?_)
          have hx_156 : x_156.toInt = y_87.toInt % 3 := by rw [ex_156, rm_I (by omega) (by rw [ti_3]; omega), ti_3]
          have bx_156 : (0 ≤ x_156.toInt ∧ x_156.toInt ≤ 2) := by constructor <;> omega
          refine lv_aload_n hx hb dX12_reads_39 rfl (lv_at hl 1 rfl) ?_
          refine lv_iload hx hb dX12_reads_40 (lv_at hl 0 rfl) ?_
          refine lv_iconst (v := 3) hx hb dX12_reads_42 (by decide) ?_
          refine lv_idiv hx hb dX12_reads_43 (by decide) ?_
          refine lv_topi (fun x_157 ex_157 => ?_)
          have hx_157 : x_157.toInt = y_87.toInt / 3 := by rw [ex_157, dv_I (by omega) (by rw [ti_3]; omega), ti_3]
          have bx_157 : (0 ≤ x_157.toInt ∧ x_157.toInt ≤ 7) := by constructor <;> omega
          refine lv_iconst (v := 3) hx hb dX12_reads_44 (by decide) ?_
          refine tk_ViP (As := [.int x_157, .int 3]) (rest := [.int x_156]) (n := 2) hx hb hml hown hU hN hZ (s_X12_ofRule_k12_c3_3 l (dC, dI) cI cL cZ cR cG cH Z kd L f_89 hG o0 mo0 ko0 x_157 (by constructor <;> omega)) wd_894 wd_895 wd_896 wd_5 wd_897 (by decide +kernel) ⟨Nat.le_of_ble_eq_true rfl, Nat.le_of_ble_eq_true rfl⟩ hK hP hD hS mo0 hfo_90 12 rfl rfl rfl hl.1 rfl (Nat.le_of_ble_eq_true rfl) dX12_reads_45 ⟨Nat.le_of_ble_eq_true rfl, Nat.le_of_ble_eq_true rfl⟩ (fun x_158 f_159 H locs hw hP hD hS => ?_)
          obtain ⟨rfl, bx_158⟩ := hw
          refine lv_icmp_lt (tgt := 54) hx hb dX12_reads_48 (by decide) (fun c_161 => ?_) (fun c_161 => ?_)
          · skip
            rw [Int32.lt_iff_toInt_lt] at c_161
            refine lv_aload_n hx hb dX12_reads_54 rfl (lv_at hl 1 rfl) ?_
            refine tk_getP (D := (dC, dI)) (ci := 12) (v := .ref a_16) (C := RX12) (T := TX12) (N := 56) hx hb hU inlX12 hown hK hP mo0 hfo_90 rfl 15 (by decide) (hU _ wd_175) (fun _ h9 => h9) rfl dX12_reads_55 ?_
            refine lv_iload_n hx hb dX12_reads_58 rfl (lv_at hl 2 rfl) ?_
            refine lv_iconst (v := 1) hx hb dX12_reads_59 (by decide) ?_
            refine lv_iadd hx hb dX12_reads_60 ?_
            refine lv_topi (fun x_162 ex_162 => ?_)
            have hx_162 : x_162.toInt = p1.toInt + 1 := by rw [ex_162, ad_I (by rw [ti_1]; omega) (by rw [ti_1]; omega), ti_1]
            have bx_162 : (1 ≤ x_162.toInt ∧ x_162.toInt ≤ 14) := by constructor <;> omega
            obtain ⟨g_164, hfo_163, hbg_164⟩ := un_580 (hG _ ma_16) ka_16
            obtain ⟨a_165, hga_165, ma_165, ka_165⟩ := hbg_164 (Int32.toNatClampNeg x_162) (in_lt (vp_in_iff.mpr (by constructor <;> omega)))
            refine tk_aldA hx hb hK hP 4 ma_16 hfo_163 rfl (vp_in_iff.mpr (by constructor <;> omega)) hga_165 dX12_reads_61 ?_
            refine lv_iload hx hb dX12_reads_62 (lv_at hl 0 rfl) ?_
            refine lv_aload_n hx hb dX12_reads_64 rfl (lv_at hl 1 rfl) ?_
            refine lv_iload hx hb dX12_reads_65 (lv_at hl 0 rfl) ?_
            refine lv_iconst (v := 0) hx hb dX12_reads_67 (by decide) ?_
            refine lv_aload_n hx hb dX12_reads_68 rfl (lv_at hl 1 rfl) ?_
            refine tk_getP (D := (dC, dI)) (ci := 12) (v := .ref a_16) (C := RX12) (T := TX12) (N := 56) hx hb hU inlX12 hown hK hP mo0 hfo_90 rfl 15 (by decide) (hU _ wd_175) (fun _ h9 => h9) rfl dX12_reads_69 ?_
            refine lv_iload_n hx hb dX12_reads_72 rfl (lv_at hl 2 rfl) ?_
            obtain ⟨a_166, hga_166, ma_166, ka_166⟩ := hbg_164 (Int32.toNatClampNeg p1) (in_lt (vp_in_iff.mpr (by constructor <;> omega)))
            refine tk_aldA hx hb hK hP 4 ma_16 hfo_163 rfl (vp_in_iff.mpr (by constructor <;> omega)) hga_166 dX12_reads_73 ?_
            refine lv_iload hx hb dX12_reads_74 (lv_at hl 0 rfl) ?_
            obtain ⟨g_168, hfo_167, hbg_168⟩ := un_579 (hG _ ma_166) ka_166
            refine tk_ildP hx hb hK hP 0 ma_166 hfo_167 rfl (vp_in_iff.mpr (by constructor <;> omega)) dX12_reads_76 ?_
            refine lv_topi (fun x_169 ex_169 => ?_)
            have bx_169 : ((-2147483648) ≤ x_169.toInt ∧ x_169.toInt ≤ 2147483647) := ⟨i32_lo _, i32_hi _⟩
            refine lv_iload_n hx hb dX12_reads_77 rfl (lv_at hl 3 rfl) ?_
            refine tk_ViP (As := [.int y_87, .int 0, .int x_169, .int p2]) (rest := [.int y_87, .ref a_165]) (n := 4) hx hb hml hown hU hN hZ (s_X12_goesOn_k12 l (dC, dI) cI cL cZ cR cG cH Z kd L f_89 hG o0 mo0 ko0 y_87 (by constructor <;> omega) 0 (by decide) x_169 p2) wd_942 wd_943 wd_944 wd_5 wd_945 (by decide +kernel) ⟨Nat.le_of_ble_eq_true rfl, Nat.le_of_ble_eq_true rfl⟩ hK hP hD hS mo0 hfo_90 12 rfl rfl rfl hl.1 rfl (Nat.le_of_ble_eq_true rfl) dX12_reads_78 ⟨Nat.le_of_ble_eq_true rfl, Nat.le_of_ble_eq_true rfl⟩ (fun x_170 f_171 H locs hw hP hD hS => ?_)
            obtain ⟨rfl, bx_170⟩ := hw
            refine lv_aload_n hx hb dX12_reads_81 rfl (lv_at hl 1 rfl) ?_
            refine lv_iload hx hb dX12_reads_82 (lv_at hl 0 rfl) ?_
            refine lv_iconst (v := 0) hx hb dX12_reads_84 (by decide) ?_
            refine tk_ViP (As := [.int y_87, .int 0]) (rest := [.int x_170, .int y_87, .ref a_165]) (n := 2) hx hb hml hown hU hN hZ (s_X12_isAnchored_k12 l (dC, dI) cI cL cZ cR cG cH Z kd L f_89 hG o0 mo0 ko0 y_87 (by constructor <;> omega) 0 (by decide)) wd_946 wd_947 wd_948 wd_5 wd_949 (by decide +kernel) ⟨Nat.le_of_ble_eq_true rfl, Nat.le_of_ble_eq_true rfl⟩ hK hP hD hS mo0 hfo_90 12 rfl rfl rfl hl.1 rfl (Nat.le_of_ble_eq_true rfl) dX12_reads_85 ⟨Nat.le_of_ble_eq_true rfl, Nat.le_of_ble_eq_true rfl⟩ (fun x_173 f_174 H locs hw hP hD hS => ?_)
            obtain ⟨rfl, bx_173⟩ := hw
            refine lv_if_eq (tgt := 95) hx hb dX12_reads_88 (by decide) (fun c_176 => ?_) (fun c_176 => ?_)
            · skip
              rw [← Int32.toInt_inj, ti_0] at c_176
              refine lv_aload_n hx hb dX12_reads_95 rfl (lv_at hl 1 rfl) ?_
              refine lv_iload hx hb dX12_reads_96 (lv_at hl 0 rfl) ?_
              refine lv_iconst (v := 0) hx hb dX12_reads_98 (by decide) ?_
              refine lv_iconst (v := 1) hx hb dX12_reads_99 (by decide) ?_
              refine tk_ViP (As := [.int y_87, .int 0, .int 1]) (rest := [.int x_170, .int y_87, .ref a_165]) (n := 3) hx hb hml hown hU hN hZ (s_X12_closed_k12 l (dC, dI) cI cL cZ cR cG cH Z kd L f_89 hG o0 mo0 ko0 y_87 (by constructor <;> omega) 0 (by decide) 1 (by decide)) wd_878 wd_879 wd_880 wd_5 wd_881 (by decide +kernel) ⟨Nat.le_of_ble_eq_true rfl, Nat.le_of_ble_eq_true rfl⟩ hK hP hD hS mo0 hfo_90 12 rfl rfl rfl hl.1 rfl (Nat.le_of_ble_eq_true rfl) dX12_reads_100 ⟨Nat.le_of_ble_eq_true rfl, Nat.le_of_ble_eq_true rfl⟩ (fun x_177 f_178 H locs hw hP hD hS => ?_)
              obtain ⟨rfl, bx_177⟩ := hw
              refine lv_ior hx hb dX12_reads_103 ?_
              refine lv_topi (fun x_180 ex_180 => ?_)
              have bx_180 : (0 ≤ x_180.toInt ∧ x_180.toInt ≤ 63) := by rw [ex_180]; exact or_K 6 (by decide) (by constructor <;> omega) (by constructor <;> omega)
              obtain ⟨g_182, hfo_181, hbg_182⟩ := un_579 (hG _ ma_165) ka_165
              refine tk_istP hx hb hK hP hD hS 0 ma_165 hfo_181 rfl (vp_in_iff.mpr (by constructor <;> omega)) dX12_reads_104 (fun H locs hP hD hS => ?_)
              obtain ⟨f_184, ef_184⟩ : ∃ y : Nat → va_E, y = va_up f_89 a_165 (.inl (cI, 24, .inl (upd g_182 (Int32.toNatClampNeg y_87) x_180))) := ⟨_, rfl⟩
              have hP : va_P (dC, dI) vwCl (va_pl L f_184) H := by rw [ef_184]; exact hP
              have hD : va_D (fun q => q ∈ L) (va_pl L f_184) := by rw [ef_184]; exact hD
              have hG : GI (okc cI cL cZ cR cG cH L kd) kd L f_184 := by rw [ef_184]; exact hG.set a_165 (mk_579 ka_165 ⟨_, rfl, okI_up hbg_182 ⟨i32_lo _, i32_hi _⟩ _⟩)
              have hfo_185 : f_184 o0 = .inr (12, [.ref a_1, .ref a_2, .ref a_3, .int v_4, .ref a_5, .int v_6, .int v_7, .int v_8, .int v_9, .int v_10, .int v_11, .int v_12, .int v_13, .int v_14, .int v_15, .ref a_16, .ref a_17, .ref a_18, .ref a_19, .ref a_20, .ref a_21, .ref a_22, .ref a_23, .int v_24, .int v_25, .int v_26, .int v_27, .int v_28, .ref a_29, .int v_30, .ref a_31, .ref a_32, .int v_33, .int v_34, .ref a_35, .int v_36, .ref a_37, .ref a_38, .int v_39, .int v_40, .ref a_41, .ref a_42, .ref a_43, .int v_44, .ref a_45, .ref a_46, .ref a_47, .ref a_48, .ref a_49, .ref a_50, .ref a_51, .ref a_52, .ref a_53, .int v_54, .int v_55, .ref a_56]) := by rw [ef_184, up_ne (kd_ne ka_165 ko0 (by decide))]; exact hfo_90
              have hfo_186 : f_184 a_20 = .inl (cI, 20, .inl g_60) := by rw [ef_184, up_ne (kd_ne ka_165 ka_20 (by decide))]; exact hfo_91
              have hfo_187 : f_184 a_1 = .inl (cI, 1560, .inl g_93) := by rw [ef_184, up_ne (kd_ne ka_165 ka_1 (by decide))]; exact hfo_92
              have hfo_188 : f_184 a_16 = .inl (cG, 20, .inr (.inr (.inr (.inr g_164)))) := by rw [ef_184, up_ne (kd_ne ka_165 ka_16 (by decide))]; exact hfo_163
              have hfr0 : ∀ b, kd b ≠ 579 → kd b ≠ 581 → kd b ≠ 583 → kd b ≠ 585 → kd b ≠ 587 → kd b ≠ 588 → f_184 b = f b := fun b q579 q581 q583 q585 q587 q588 => (congrFun ef_184 b).trans ((up_ne (fun e9 => q579 (by rw [e9]; exact ka_165))).trans (hfr0 b q579 q581 q583 q585 q587 q588))
              have hfo_189 : f_184 a_165 = .inl (cI, 24, .inl (upd g_182 (Int32.toNatClampNeg y_87) x_180)) := by rw [ef_184]; exact up_self
              refine lv_aload_n hx hb dX12_reads_105 rfl (lv_at hl 1 rfl) ?_
              refine tk_getP (D := (dC, dI)) (ci := 12) (v := .ref a_17) (C := RX12) (T := TX12) (N := 56) hx hb hU inlX12 hown hK hP mo0 hfo_185 rfl 16 (by decide) (hU _ wd_176) (fun _ h9 => h9) rfl dX12_reads_106 ?_
              refine lv_iload_n hx hb dX12_reads_109 rfl (lv_at hl 2 rfl) ?_
              refine lv_iconst (v := 1) hx hb dX12_reads_110 (by decide) ?_
              refine lv_iadd hx hb dX12_reads_111 ?_
              refine lv_topi (fun x_190 ex_190 => ?_)
              have hx_190 : x_190.toInt = p1.toInt + 1 := by rw [ex_190, ad_I (by rw [ti_1]; omega) (by rw [ti_1]; omega), ti_1]
              have bx_190 : (1 ≤ x_190.toInt ∧ x_190.toInt ≤ 14) := by constructor <;> omega
              obtain ⟨g_192, hfo_191, hbg_192⟩ := un_582 (hG _ ma_17) ka_17
              obtain ⟨a_193, hga_193, ma_193, ka_193⟩ := hbg_192 (Int32.toNatClampNeg x_190) (in_lt (vp_in_iff.mpr (by constructor <;> omega)))
              refine tk_aldA hx hb hK hP 4 ma_17 hfo_191 rfl (vp_in_iff.mpr (by constructor <;> omega)) hga_193 dX12_reads_112 ?_
              refine lv_iload hx hb dX12_reads_113 (lv_at hl 0 rfl) ?_
              refine lv_aload_n hx hb dX12_reads_115 rfl (lv_at hl 1 rfl) ?_
              refine lv_iload hx hb dX12_reads_116 (lv_at hl 0 rfl) ?_
              refine lv_iconst (v := 1) hx hb dX12_reads_118 (by decide) ?_
              refine lv_aload_n hx hb dX12_reads_119 rfl (lv_at hl 1 rfl) ?_
              refine tk_getP (D := (dC, dI)) (ci := 12) (v := .ref a_17) (C := RX12) (T := TX12) (N := 56) hx hb hU inlX12 hown hK hP mo0 hfo_185 rfl 16 (by decide) (hU _ wd_176) (fun _ h9 => h9) rfl dX12_reads_120 ?_
              refine lv_iload_n hx hb dX12_reads_123 rfl (lv_at hl 2 rfl) ?_
              obtain ⟨a_194, hga_194, ma_194, ka_194⟩ := hbg_192 (Int32.toNatClampNeg p1) (in_lt (vp_in_iff.mpr (by constructor <;> omega)))
              refine tk_aldA hx hb hK hP 4 ma_17 hfo_191 rfl (vp_in_iff.mpr (by constructor <;> omega)) hga_194 dX12_reads_124 ?_
              refine lv_iload hx hb dX12_reads_125 (lv_at hl 0 rfl) ?_
              obtain ⟨g_196, hfo_195, hbg_196⟩ := un_581 (hG _ ma_194) ka_194
              refine tk_ildP hx hb hK hP 0 ma_194 hfo_195 rfl (vp_in_iff.mpr (by constructor <;> omega)) dX12_reads_127 ?_
              refine lv_topi (fun x_197 ex_197 => ?_)
              have bx_197 : ((-2147483648) ≤ x_197.toInt ∧ x_197.toInt ≤ 2147483647) := ⟨i32_lo _, i32_hi _⟩
              refine lv_iload_n hx hb dX12_reads_128 rfl (lv_at hl 3 rfl) ?_
              refine tk_ViP (As := [.int y_87, .int 1, .int x_197, .int p2]) (rest := [.int y_87, .ref a_193]) (n := 4) hx hb hml hown hU hN hZ (s_X12_goesOn_k12 l (dC, dI) cI cL cZ cR cG cH Z kd L f_184 hG o0 mo0 ko0 y_87 (by constructor <;> omega) 1 (by decide) x_197 p2) wd_942 wd_943 wd_944 wd_5 wd_945 (by decide +kernel) ⟨Nat.le_of_ble_eq_true rfl, Nat.le_of_ble_eq_true rfl⟩ hK hP hD hS mo0 hfo_185 12 rfl rfl rfl hl.1 rfl (Nat.le_of_ble_eq_true rfl) dX12_reads_129 ⟨Nat.le_of_ble_eq_true rfl, Nat.le_of_ble_eq_true rfl⟩ (fun x_198 f_199 H locs hw hP hD hS => ?_)
              obtain ⟨rfl, bx_198⟩ := hw
              obtain ⟨g_202, hfo_201, hbg_202⟩ := un_581 (hG _ ma_193) ka_193
              refine tk_istP hx hb hK hP hD hS 0 ma_193 hfo_201 rfl (vp_in_iff.mpr (by constructor <;> omega)) dX12_reads_132 (fun H locs hP hD hS => ?_)
              obtain ⟨f_204, ef_204⟩ : ∃ y : Nat → va_E, y = va_up f_184 a_193 (.inl (cI, 24, .inl (upd g_202 (Int32.toNatClampNeg y_87) x_198))) := ⟨_, rfl⟩
              have hP : va_P (dC, dI) vwCl (va_pl L f_204) H := by rw [ef_204]; exact hP
              have hD : va_D (fun q => q ∈ L) (va_pl L f_204) := by rw [ef_204]; exact hD
              have hG : GI (okc cI cL cZ cR cG cH L kd) kd L f_204 := by rw [ef_204]; exact hG.set a_193 (mk_581 ka_193 ⟨_, rfl, okI_up hbg_202 ⟨i32_lo _, i32_hi _⟩ _⟩)
              have hfo_205 : f_204 o0 = .inr (12, [.ref a_1, .ref a_2, .ref a_3, .int v_4, .ref a_5, .int v_6, .int v_7, .int v_8, .int v_9, .int v_10, .int v_11, .int v_12, .int v_13, .int v_14, .int v_15, .ref a_16, .ref a_17, .ref a_18, .ref a_19, .ref a_20, .ref a_21, .ref a_22, .ref a_23, .int v_24, .int v_25, .int v_26, .int v_27, .int v_28, .ref a_29, .int v_30, .ref a_31, .ref a_32, .int v_33, .int v_34, .ref a_35, .int v_36, .ref a_37, .ref a_38, .int v_39, .int v_40, .ref a_41, .ref a_42, .ref a_43, .int v_44, .ref a_45, .ref a_46, .ref a_47, .ref a_48, .ref a_49, .ref a_50, .ref a_51, .ref a_52, .ref a_53, .int v_54, .int v_55, .ref a_56]) := by rw [ef_204, up_ne (kd_ne ka_193 ko0 (by decide))]; exact hfo_185
              have hfo_206 : f_204 a_20 = .inl (cI, 20, .inl g_60) := by rw [ef_204, up_ne (kd_ne ka_193 ka_20 (by decide))]; exact hfo_186
              have hfo_207 : f_204 a_1 = .inl (cI, 1560, .inl g_93) := by rw [ef_204, up_ne (kd_ne ka_193 ka_1 (by decide))]; exact hfo_187
              have hfo_208 : f_204 a_16 = .inl (cG, 20, .inr (.inr (.inr (.inr g_164)))) := by rw [ef_204, up_ne (kd_ne ka_193 ka_16 (by decide))]; exact hfo_188
              have hfo_209 : f_204 a_17 = .inl (cG, 20, .inr (.inr (.inr (.inr g_192)))) := by rw [ef_204, up_ne (kd_ne ka_193 ka_17 (by decide))]; exact hfo_191
              have hfr0 : ∀ b, kd b ≠ 579 → kd b ≠ 581 → kd b ≠ 583 → kd b ≠ 585 → kd b ≠ 587 → kd b ≠ 588 → f_204 b = f b := fun b q579 q581 q583 q585 q587 q588 => (congrFun ef_204 b).trans ((up_ne (fun e9 => q581 (by rw [e9]; exact ka_193))).trans (hfr0 b q579 q581 q583 q585 q587 q588))
              have hfo_210 : f_204 a_193 = .inl (cI, 24, .inl (upd g_202 (Int32.toNatClampNeg y_87) x_198)) := by rw [ef_204]; exact up_self
              refine lv_aload_n hx hb dX12_reads_133 rfl (lv_at hl 1 rfl) ?_
              refine tk_getP (D := (dC, dI)) (ci := 12) (v := .ref a_17) (C := RX12) (T := TX12) (N := 56) hx hb hU inlX12 hown hK hP mo0 hfo_205 rfl 16 (by decide) (hU _ wd_176) (fun _ h9 => h9) rfl dX12_reads_134 ?_
              refine lv_iload_n hx hb dX12_reads_137 rfl (lv_at hl 2 rfl) ?_
              refine lv_iconst (v := 1) hx hb dX12_reads_138 (by decide) ?_
              refine lv_iadd hx hb dX12_reads_139 ?_
              refine lv_topi (fun x_211 ex_211 => ?_)
              have hx_211 : x_211.toInt = p1.toInt + 1 := by rw [ex_211, ad_I (by rw [ti_1]; omega) (by rw [ti_1]; omega), ti_1]
              have bx_211 : (1 ≤ x_211.toInt ∧ x_211.toInt ≤ 14) := by constructor <;> omega
              obtain ⟨a_212, hga_212, ma_212, ka_212⟩ := hbg_192 (Int32.toNatClampNeg x_211) (in_lt (vp_in_iff.mpr (by constructor <;> omega)))
              refine tk_aldA hx hb hK hP 4 ma_17 hfo_209 rfl (vp_in_iff.mpr (by constructor <;> omega)) hga_212 dX12_reads_140 ?_
              refine lv_iload hx hb dX12_reads_141 (lv_at hl 0 rfl) ?_
              obtain ⟨g_214, hfo_213, hbg_214⟩ := un_581 (hG _ ma_212) ka_212
              refine tk_ildP hx hb hK hP 0 ma_212 hfo_213 rfl (vp_in_iff.mpr (by constructor <;> omega)) dX12_reads_143 ?_
              refine lv_topi (fun x_215 ex_215 => ?_)
              have bx_215 : ((-2147483648) ≤ x_215.toInt ∧ x_215.toInt ≤ 2147483647) := ⟨i32_lo _, i32_hi _⟩
              refine lv_if_eq (tgt := 169) hx hb dX12_reads_144 (by decide) (fun c_216 => ?_) (fun c_216 => ?_)
              · skip
                rw [← Int32.toInt_inj, ti_0] at c_216
                obtain ⟨x_217, ex_217⟩ : ∃ y : Int32, y_87 + 1 = y := ⟨_, rfl⟩
                have hx_217 : x_217.toInt = y_87.toInt + 1 := by rw [← ex_217, ad_I (by rw [ti_1]; omega) (by rw [ti_1]; omega), ti_1]
                have bx_217 : (1 ≤ x_217.toInt ∧ x_217.toInt ≤ 24) := by constructor <;> omega
                refine lv_iinc (v := x_217) (lv' := [(4, .int x_217), (0, .ref o0), (1, .int p1), (2, .int p2), (3, .int p3)]) hx hb dX12_reads_169 hl (k := 0) rfl ex_217 (by decide) rfl (fun ls hl => ?_)
                refine lv_goto (tgt := 10) hx hb dX12_reads_172 (by decide) ?_
                exact ih_hloop_86 x_217 (by constructor <;> omega) f_204 hG _ _ hP hS hD hfr0 hfo_205 hfo_206 (by omega) ls (lv_sub hl [0, 1, 2, 3, 4] rfl)
              · skip
                rw [← Int32.toInt_inj, ti_0] at c_216
                refine lv_aload_n hx hb dX12_reads_147 rfl (lv_at hl 1 rfl) ?_
                refine lv_iload hx hb dX12_reads_148 (lv_at hl 0 rfl) ?_
                refine lv_aload_n hx hb dX12_reads_150 rfl (lv_at hl 1 rfl) ?_
                refine tk_getP (D := (dC, dI)) (ci := 12) (v := .ref a_17) (C := RX12) (T := TX12) (N := 56) hx hb hU inlX12 hown hK hP mo0 hfo_205 rfl 16 (by decide) (hU _ wd_176) (fun _ h9 => h9) rfl dX12_reads_151 ?_
                refine lv_iload_n hx hb dX12_reads_154 rfl (lv_at hl 2 rfl) ?_
                refine lv_iconst (v := 1) hx hb dX12_reads_155 (by decide) ?_
                refine lv_iadd hx hb dX12_reads_156 ?_
                refine lv_topi (fun x_218 ex_218 => ?_)
                have hx_218 : x_218.toInt = p1.toInt + 1 := by rw [ex_218, ad_I (by rw [ti_1]; omega) (by rw [ti_1]; omega), ti_1]
                have bx_218 : (1 ≤ x_218.toInt ∧ x_218.toInt ≤ 14) := by constructor <;> omega
                obtain ⟨a_219, hga_219, ma_219, ka_219⟩ := hbg_192 (Int32.toNatClampNeg x_218) (in_lt (vp_in_iff.mpr (by constructor <;> omega)))
                refine tk_aldA hx hb hK hP 4 ma_17 hfo_209 rfl (vp_in_iff.mpr (by constructor <;> omega)) hga_219 dX12_reads_157 ?_
                refine lv_iload hx hb dX12_reads_158 (lv_at hl 0 rfl) ?_
                obtain ⟨g_221, hfo_220, hbg_221⟩ := un_581 (hG _ ma_219) ka_219
                refine tk_ildP hx hb hK hP 0 ma_219 hfo_220 rfl (vp_in_iff.mpr (by constructor <;> omega)) dX12_reads_160 ?_
                refine lv_topi (fun x_222 ex_222 => ?_)
                have bx_222 : ((-2147483648) ≤ x_222.toInt ∧ x_222.toInt ≤ 2147483647) := ⟨i32_lo _, i32_hi _⟩
                refine tk_ViP (As := [.int y_87, .int x_222]) (rest := []) (n := 2) hx hb hml hown hU hN hZ (s_X12_isMet_k12 l (dC, dI) cI cL cZ cR cG cH Z kd L f_204 hG o0 mo0 ko0 y_87 (by constructor <;> omega) x_222) wd_954 wd_955 wd_956 wd_5 wd_957 (by decide +kernel) ⟨Nat.le_of_ble_eq_true rfl, Nat.le_of_ble_eq_true rfl⟩ hK hP hD hS mo0 hfo_205 12 rfl rfl rfl hl.1 rfl (Nat.le_of_ble_eq_true rfl) dX12_reads_161 ⟨Nat.le_of_ble_eq_true rfl, Nat.le_of_ble_eq_true rfl⟩ (fun x_223 f_224 H locs hw hP hD hS => ?_)
                obtain ⟨rfl, bx_223⟩ := hw
                refine lv_if_eq (tgt := 169) hx hb dX12_reads_164 (by decide) (fun c_226 => ?_) (fun c_226 => ?_)
                · skip
                  rw [← Int32.toInt_inj, ti_0] at c_226
                  obtain ⟨x_227, ex_227⟩ : ∃ y : Int32, y_87 + 1 = y := ⟨_, rfl⟩
                  have hx_227 : x_227.toInt = y_87.toInt + 1 := by rw [← ex_227, ad_I (by rw [ti_1]; omega) (by rw [ti_1]; omega), ti_1]
                  have bx_227 : (1 ≤ x_227.toInt ∧ x_227.toInt ≤ 24) := by constructor <;> omega
                  refine lv_iinc (v := x_227) (lv' := [(4, .int x_227), (0, .ref o0), (1, .int p1), (2, .int p2), (3, .int p3)]) hx hb dX12_reads_169 hl (k := 0) rfl ex_227 (by decide) rfl (fun ls hl => ?_)
                  refine lv_goto (tgt := 10) hx hb dX12_reads_172 (by decide) ?_
                  exact ih_hloop_86 x_227 (by constructor <;> omega) f_204 hG _ _ hP hS hD hfr0 hfo_205 hfo_206 (by omega) ls (lv_sub hl [0, 1, 2, 3, 4] rfl)
                · skip
                  rw [← Int32.toInt_inj, ti_0] at c_226
                  refine lv_iconst (v := 0) hx hb dX12_reads_167 (by decide) ?_
                  exact W.zret (v := 0) (ty := .boolean) hx hb hr rfl (fun t ht hW => ⟨⟨0, f_204, rfl, ⟨hG, (by decide), hfr0⟩, by rw [ht]; exact hP, va_K.moved hW.alike hK, pl_in hD⟩, hS.F ht⟩) hS.2.2 dX12_reads_168
            · skip
              rw [← Int32.toInt_inj, ti_0] at c_176
              refine lv_iconst (v := 0) hx hb dX12_reads_91 (by decide) ?_
              refine lv_goto (tgt := 103) hx hb dX12_reads_92 (by decide) ?_
              refine lv_ior hx hb dX12_reads_103 ?_
              refine lv_topi (fun x_228 ex_228 => ?_)
              have bx_228 : (0 ≤ x_228.toInt ∧ x_228.toInt ≤ 63) := by rw [ex_228]; exact or_K 6 (by decide) (by constructor <;> omega) (by decide)
              obtain ⟨g_230, hfo_229, hbg_230⟩ := un_579 (hG _ ma_165) ka_165
              refine tk_istP hx hb hK hP hD hS 0 ma_165 hfo_229 rfl (vp_in_iff.mpr (by constructor <;> omega)) dX12_reads_104 (fun H locs hP hD hS => ?_)
              obtain ⟨f_232, ef_232⟩ : ∃ y : Nat → va_E, y = va_up f_89 a_165 (.inl (cI, 24, .inl (upd g_230 (Int32.toNatClampNeg y_87) x_228))) := ⟨_, rfl⟩
              have hP : va_P (dC, dI) vwCl (va_pl L f_232) H := by rw [ef_232]; exact hP
              have hD : va_D (fun q => q ∈ L) (va_pl L f_232) := by rw [ef_232]; exact hD
              have hG : GI (okc cI cL cZ cR cG cH L kd) kd L f_232 := by rw [ef_232]; exact hG.set a_165 (mk_579 ka_165 ⟨_, rfl, okI_up hbg_230 ⟨i32_lo _, i32_hi _⟩ _⟩)
              have hfo_233 : f_232 o0 = .inr (12, [.ref a_1, .ref a_2, .ref a_3, .int v_4, .ref a_5, .int v_6, .int v_7, .int v_8, .int v_9, .int v_10, .int v_11, .int v_12, .int v_13, .int v_14, .int v_15, .ref a_16, .ref a_17, .ref a_18, .ref a_19, .ref a_20, .ref a_21, .ref a_22, .ref a_23, .int v_24, .int v_25, .int v_26, .int v_27, .int v_28, .ref a_29, .int v_30, .ref a_31, .ref a_32, .int v_33, .int v_34, .ref a_35, .int v_36, .ref a_37, .ref a_38, .int v_39, .int v_40, .ref a_41, .ref a_42, .ref a_43, .int v_44, .ref a_45, .ref a_46, .ref a_47, .ref a_48, .ref a_49, .ref a_50, .ref a_51, .ref a_52, .ref a_53, .int v_54, .int v_55, .ref a_56]) := by rw [ef_232, up_ne (kd_ne ka_165 ko0 (by decide))]; exact hfo_90
              have hfo_234 : f_232 a_20 = .inl (cI, 20, .inl g_60) := by rw [ef_232, up_ne (kd_ne ka_165 ka_20 (by decide))]; exact hfo_91
              have hfo_235 : f_232 a_1 = .inl (cI, 1560, .inl g_93) := by rw [ef_232, up_ne (kd_ne ka_165 ka_1 (by decide))]; exact hfo_92
              have hfo_236 : f_232 a_16 = .inl (cG, 20, .inr (.inr (.inr (.inr g_164)))) := by rw [ef_232, up_ne (kd_ne ka_165 ka_16 (by decide))]; exact hfo_163
              have hfr0 : ∀ b, kd b ≠ 579 → kd b ≠ 581 → kd b ≠ 583 → kd b ≠ 585 → kd b ≠ 587 → kd b ≠ 588 → f_232 b = f b := fun b q579 q581 q583 q585 q587 q588 => (congrFun ef_232 b).trans ((up_ne (fun e9 => q579 (by rw [e9]; exact ka_165))).trans (hfr0 b q579 q581 q583 q585 q587 q588))
              have hfo_237 : f_232 a_165 = .inl (cI, 24, .inl (upd g_230 (Int32.toNatClampNeg y_87) x_228)) := by rw [ef_232]; exact up_self
              refine lv_aload_n hx hb dX12_reads_105 rfl (lv_at hl 1 rfl) ?_
              refine tk_getP (D := (dC, dI)) (ci := 12) (v := .ref a_17) (C := RX12) (T := TX12) (N := 56) hx hb hU inlX12 hown hK hP mo0 hfo_233 rfl 16 (by decide) (hU _ wd_176) (fun _ h9 => h9) rfl dX12_reads_106 ?_
              refine lv_iload_n hx hb dX12_reads_109 rfl (lv_at hl 2 rfl) ?_
              refine lv_iconst (v := 1) hx hb dX12_reads_110 (by decide) ?_
              refine lv_iadd hx hb dX12_reads_111 ?_
              refine lv_topi (fun x_238 ex_238 => ?_)
              have hx_238 : x_238.toInt = p1.toInt + 1 := by rw [ex_238, ad_I (by rw [ti_1]; omega) (by rw [ti_1]; omega), ti_1]
              have bx_238 : (1 ≤ x_238.toInt ∧ x_238.toInt ≤ 14) := by constructor <;> omega
              obtain ⟨g_240, hfo_239, hbg_240⟩ := un_582 (hG _ ma_17) ka_17
              obtain ⟨a_241, hga_241, ma_241, ka_241⟩ := hbg_240 (Int32.toNatClampNeg x_238) (in_lt (vp_in_iff.mpr (by constructor <;> omega)))
              refine tk_aldA hx hb hK hP 4 ma_17 hfo_239 rfl (vp_in_iff.mpr (by constructor <;> omega)) hga_241 dX12_reads_112 ?_
              refine lv_iload hx hb dX12_reads_113 (lv_at hl 0 rfl) ?_
              refine lv_aload_n hx hb dX12_reads_115 rfl (lv_at hl 1 rfl) ?_
              refine lv_iload hx hb dX12_reads_116 (lv_at hl 0 rfl) ?_
              refine lv_iconst (v := 1) hx hb dX12_reads_118 (by decide) ?_
              refine lv_aload_n hx hb dX12_reads_119 rfl (lv_at hl 1 rfl) ?_
              refine tk_getP (D := (dC, dI)) (ci := 12) (v := .ref a_17) (C := RX12) (T := TX12) (N := 56) hx hb hU inlX12 hown hK hP mo0 hfo_233 rfl 16 (by decide) (hU _ wd_176) (fun _ h9 => h9) rfl dX12_reads_120 ?_
              refine lv_iload_n hx hb dX12_reads_123 rfl (lv_at hl 2 rfl) ?_
              obtain ⟨a_242, hga_242, ma_242, ka_242⟩ := hbg_240 (Int32.toNatClampNeg p1) (in_lt (vp_in_iff.mpr (by constructor <;> omega)))
              refine tk_aldA hx hb hK hP 4 ma_17 hfo_239 rfl (vp_in_iff.mpr (by constructor <;> omega)) hga_242 dX12_reads_124 ?_
              refine lv_iload hx hb dX12_reads_125 (lv_at hl 0 rfl) ?_
              obtain ⟨g_244, hfo_243, hbg_244⟩ := un_581 (hG _ ma_242) ka_242
              refine tk_ildP hx hb hK hP 0 ma_242 hfo_243 rfl (vp_in_iff.mpr (by constructor <;> omega)) dX12_reads_127 ?_
              refine lv_topi (fun x_245 ex_245 => ?_)
              have bx_245 : ((-2147483648) ≤ x_245.toInt ∧ x_245.toInt ≤ 2147483647) := ⟨i32_lo _, i32_hi _⟩
              refine lv_iload_n hx hb dX12_reads_128 rfl (lv_at hl 3 rfl) ?_
              refine tk_ViP (As := [.int y_87, .int 1, .int x_245, .int p2]) (rest := [.int y_87, .ref a_241]) (n := 4) hx hb hml hown hU hN hZ (s_X12_goesOn_k12 l (dC, dI) cI cL cZ cR cG cH Z kd L f_232 hG o0 mo0 ko0 y_87 (by constructor <;> omega) 1 (by decide) x_245 p2) wd_942 wd_943 wd_944 wd_5 wd_945 (by decide +kernel) ⟨Nat.le_of_ble_eq_true rfl, Nat.le_of_ble_eq_true rfl⟩ hK hP hD hS mo0 hfo_233 12 rfl rfl rfl hl.1 rfl (Nat.le_of_ble_eq_true rfl) dX12_reads_129 ⟨Nat.le_of_ble_eq_true rfl, Nat.le_of_ble_eq_true rfl⟩ (fun x_246 f_247 H locs hw hP hD hS => ?_)
              obtain ⟨rfl, bx_246⟩ := hw
              obtain ⟨g_250, hfo_249, hbg_250⟩ := un_581 (hG _ ma_241) ka_241
              refine tk_istP hx hb hK hP hD hS 0 ma_241 hfo_249 rfl (vp_in_iff.mpr (by constructor <;> omega)) dX12_reads_132 (fun H locs hP hD hS => ?_)
              obtain ⟨f_252, ef_252⟩ : ∃ y : Nat → va_E, y = va_up f_232 a_241 (.inl (cI, 24, .inl (upd g_250 (Int32.toNatClampNeg y_87) x_246))) := ⟨_, rfl⟩
              have hP : va_P (dC, dI) vwCl (va_pl L f_252) H := by rw [ef_252]; exact hP
              have hD : va_D (fun q => q ∈ L) (va_pl L f_252) := by rw [ef_252]; exact hD
              have hG : GI (okc cI cL cZ cR cG cH L kd) kd L f_252 := by rw [ef_252]; exact hG.set a_241 (mk_581 ka_241 ⟨_, rfl, okI_up hbg_250 ⟨i32_lo _, i32_hi _⟩ _⟩)
              have hfo_253 : f_252 o0 = .inr (12, [.ref a_1, .ref a_2, .ref a_3, .int v_4, .ref a_5, .int v_6, .int v_7, .int v_8, .int v_9, .int v_10, .int v_11, .int v_12, .int v_13, .int v_14, .int v_15, .ref a_16, .ref a_17, .ref a_18, .ref a_19, .ref a_20, .ref a_21, .ref a_22, .ref a_23, .int v_24, .int v_25, .int v_26, .int v_27, .int v_28, .ref a_29, .int v_30, .ref a_31, .ref a_32, .int v_33, .int v_34, .ref a_35, .int v_36, .ref a_37, .ref a_38, .int v_39, .int v_40, .ref a_41, .ref a_42, .ref a_43, .int v_44, .ref a_45, .ref a_46, .ref a_47, .ref a_48, .ref a_49, .ref a_50, .ref a_51, .ref a_52, .ref a_53, .int v_54, .int v_55, .ref a_56]) := by rw [ef_252, up_ne (kd_ne ka_241 ko0 (by decide))]; exact hfo_233
              have hfo_254 : f_252 a_20 = .inl (cI, 20, .inl g_60) := by rw [ef_252, up_ne (kd_ne ka_241 ka_20 (by decide))]; exact hfo_234
              have hfo_255 : f_252 a_1 = .inl (cI, 1560, .inl g_93) := by rw [ef_252, up_ne (kd_ne ka_241 ka_1 (by decide))]; exact hfo_235
              have hfo_256 : f_252 a_16 = .inl (cG, 20, .inr (.inr (.inr (.inr g_164)))) := by rw [ef_252, up_ne (kd_ne ka_241 ka_16 (by decide))]; exact hfo_236
              have hfo_257 : f_252 a_17 = .inl (cG, 20, .inr (.inr (.inr (.inr g_240)))) := by rw [ef_252, up_ne (kd_ne ka_241 ka_17 (by decide))]; exact hfo_239
              have hfr0 : ∀ b, kd b ≠ 579 → kd b ≠ 581 → kd b ≠ 583 → kd b ≠ 585 → kd b ≠ 587 → kd b ≠ 588 → f_252 b = f b := fun b q579 q581 q583 q585 q587 q588 => (congrFun ef_252 b).trans ((up_ne (fun e9 => q581 (by rw [e9]; exact ka_241))).trans (hfr0 b q579 q581 q583 q585 q587 q588))
              have hfo_258 : f_252 a_241 = .inl (cI, 24, .inl (upd g_250 (Int32.toNatClampNeg y_87) x_246)) := by rw [ef_252]; exact up_self
              refine lv_aload_n hx hb dX12_reads_133 rfl (lv_at hl 1 rfl) ?_
              refine tk_getP (D := (dC, dI)) (ci := 12) (v := .ref a_17) (C := RX12) (T := TX12) (N := 56) hx hb hU inlX12 hown hK hP mo0 hfo_253 rfl 16 (by decide) (hU _ wd_176) (fun _ h9 => h9) rfl dX12_reads_134 ?_
              refine lv_iload_n hx hb dX12_reads_137 rfl (lv_at hl 2 rfl) ?_
              refine lv_iconst (v := 1) hx hb dX12_reads_138 (by decide) ?_
              refine lv_iadd hx hb dX12_reads_139 ?_
              refine lv_topi (fun x_259 ex_259 => ?_)
              have hx_259 : x_259.toInt = p1.toInt + 1 := by rw [ex_259, ad_I (by rw [ti_1]; omega) (by rw [ti_1]; omega), ti_1]
              have bx_259 : (1 ≤ x_259.toInt ∧ x_259.toInt ≤ 14) := by constructor <;> omega
              obtain ⟨a_260, hga_260, ma_260, ka_260⟩ := hbg_240 (Int32.toNatClampNeg x_259) (in_lt (vp_in_iff.mpr (by constructor <;> omega)))
              refine tk_aldA hx hb hK hP 4 ma_17 hfo_257 rfl (vp_in_iff.mpr (by constructor <;> omega)) hga_260 dX12_reads_140 ?_
              refine lv_iload hx hb dX12_reads_141 (lv_at hl 0 rfl) ?_
              obtain ⟨g_262, hfo_261, hbg_262⟩ := un_581 (hG _ ma_260) ka_260
              refine tk_ildP hx hb hK hP 0 ma_260 hfo_261 rfl (vp_in_iff.mpr (by constructor <;> omega)) dX12_reads_143 ?_
              refine lv_topi (fun x_263 ex_263 => ?_)
              have bx_263 : ((-2147483648) ≤ x_263.toInt ∧ x_263.toInt ≤ 2147483647) := ⟨i32_lo _, i32_hi _⟩
              refine lv_if_eq (tgt := 169) hx hb dX12_reads_144 (by decide) (fun c_264 => ?_) (fun c_264 => ?_)
              · skip
                rw [← Int32.toInt_inj, ti_0] at c_264
                obtain ⟨x_265, ex_265⟩ : ∃ y : Int32, y_87 + 1 = y := ⟨_, rfl⟩
                have hx_265 : x_265.toInt = y_87.toInt + 1 := by rw [← ex_265, ad_I (by rw [ti_1]; omega) (by rw [ti_1]; omega), ti_1]
                have bx_265 : (1 ≤ x_265.toInt ∧ x_265.toInt ≤ 24) := by constructor <;> omega
                refine lv_iinc (v := x_265) (lv' := [(4, .int x_265), (0, .ref o0), (1, .int p1), (2, .int p2), (3, .int p3)]) hx hb dX12_reads_169 hl (k := 0) rfl ex_265 (by decide) rfl (fun ls hl => ?_)
                refine lv_goto (tgt := 10) hx hb dX12_reads_172 (by decide) ?_
                exact ih_hloop_86 x_265 (by constructor <;> omega) f_252 hG _ _ hP hS hD hfr0 hfo_253 hfo_254 (by omega) ls (lv_sub hl [0, 1, 2, 3, 4] rfl)
              · skip
                rw [← Int32.toInt_inj, ti_0] at c_264
                refine lv_aload_n hx hb dX12_reads_147 rfl (lv_at hl 1 rfl) ?_
                refine lv_iload hx hb dX12_reads_148 (lv_at hl 0 rfl) ?_
                refine lv_aload_n hx hb dX12_reads_150 rfl (lv_at hl 1 rfl) ?_
                refine tk_getP (D := (dC, dI)) (ci := 12) (v := .ref a_17) (C := RX12) (T := TX12) (N := 56) hx hb hU inlX12 hown hK hP mo0 hfo_253 rfl 16 (by decide) (hU _ wd_176) (fun _ h9 => h9) rfl dX12_reads_151 ?_
                refine lv_iload_n hx hb dX12_reads_154 rfl (lv_at hl 2 rfl) ?_
                refine lv_iconst (v := 1) hx hb dX12_reads_155 (by decide) ?_
                refine lv_iadd hx hb dX12_reads_156 ?_
                refine lv_topi (fun x_266 ex_266 => ?_)
                have hx_266 : x_266.toInt = p1.toInt + 1 := by rw [ex_266, ad_I (by rw [ti_1]; omega) (by rw [ti_1]; omega), ti_1]
                have bx_266 : (1 ≤ x_266.toInt ∧ x_266.toInt ≤ 14) := by constructor <;> omega
                obtain ⟨a_267, hga_267, ma_267, ka_267⟩ := hbg_240 (Int32.toNatClampNeg x_266) (in_lt (vp_in_iff.mpr (by constructor <;> omega)))
                refine tk_aldA hx hb hK hP 4 ma_17 hfo_257 rfl (vp_in_iff.mpr (by constructor <;> omega)) hga_267 dX12_reads_157 ?_
                refine lv_iload hx hb dX12_reads_158 (lv_at hl 0 rfl) ?_
                obtain ⟨g_269, hfo_268, hbg_269⟩ := un_581 (hG _ ma_267) ka_267
                refine tk_ildP hx hb hK hP 0 ma_267 hfo_268 rfl (vp_in_iff.mpr (by constructor <;> omega)) dX12_reads_160 ?_
                refine lv_topi (fun x_270 ex_270 => ?_)
                have bx_270 : ((-2147483648) ≤ x_270.toInt ∧ x_270.toInt ≤ 2147483647) := ⟨i32_lo _, i32_hi _⟩
                refine tk_ViP (As := [.int y_87, .int x_270]) (rest := []) (n := 2) hx hb hml hown hU hN hZ (s_X12_isMet_k12 l (dC, dI) cI cL cZ cR cG cH Z kd L f_252 hG o0 mo0 ko0 y_87 (by constructor <;> omega) x_270) wd_954 wd_955 wd_956 wd_5 wd_957 (by decide +kernel) ⟨Nat.le_of_ble_eq_true rfl, Nat.le_of_ble_eq_true rfl⟩ hK hP hD hS mo0 hfo_253 12 rfl rfl rfl hl.1 rfl (Nat.le_of_ble_eq_true rfl) dX12_reads_161 ⟨Nat.le_of_ble_eq_true rfl, Nat.le_of_ble_eq_true rfl⟩ (fun x_271 f_272 H locs hw hP hD hS => ?_)
                obtain ⟨rfl, bx_271⟩ := hw
                refine lv_if_eq (tgt := 169) hx hb dX12_reads_164 (by decide) (fun c_274 => ?_) (fun c_274 => ?_)
                · skip
                  rw [← Int32.toInt_inj, ti_0] at c_274
                  obtain ⟨x_275, ex_275⟩ : ∃ y : Int32, y_87 + 1 = y := ⟨_, rfl⟩
                  have hx_275 : x_275.toInt = y_87.toInt + 1 := by rw [← ex_275, ad_I (by rw [ti_1]; omega) (by rw [ti_1]; omega), ti_1]
                  have bx_275 : (1 ≤ x_275.toInt ∧ x_275.toInt ≤ 24) := by constructor <;> omega
                  refine lv_iinc (v := x_275) (lv' := [(4, .int x_275), (0, .ref o0), (1, .int p1), (2, .int p2), (3, .int p3)]) hx hb dX12_reads_169 hl (k := 0) rfl ex_275 (by decide) rfl (fun ls hl => ?_)
                  refine lv_goto (tgt := 10) hx hb dX12_reads_172 (by decide) ?_
                  exact ih_hloop_86 x_275 (by constructor <;> omega) f_252 hG _ _ hP hS hD hfr0 hfo_253 hfo_254 (by omega) ls (lv_sub hl [0, 1, 2, 3, 4] rfl)
                · skip
                  rw [← Int32.toInt_inj, ti_0] at c_274
                  refine lv_iconst (v := 0) hx hb dX12_reads_167 (by decide) ?_
                  exact W.zret (v := 0) (ty := .boolean) hx hb hr rfl (fun t ht hW => ⟨⟨0, f_252, rfl, ⟨hG, (by decide), hfr0⟩, by rw [ht]; exact hP, va_K.moved hW.alike hK, pl_in hD⟩, hS.F ht⟩) hS.2.2 dX12_reads_168
          · skip
            rw [Int32.lt_iff_toInt_lt] at c_161
            refine lv_goto (tgt := 169) hx hb dX12_reads_51 (by decide) ?_
            obtain ⟨x_276, ex_276⟩ : ∃ y : Int32, y_87 + 1 = y := ⟨_, rfl⟩
            have hx_276 : x_276.toInt = y_87.toInt + 1 := by rw [← ex_276, ad_I (by rw [ti_1]; omega) (by rw [ti_1]; omega), ti_1]
            have bx_276 : (1 ≤ x_276.toInt ∧ x_276.toInt ≤ 24) := by constructor <;> omega
            refine lv_iinc (v := x_276) (lv' := [(4, .int x_276), (0, .ref o0), (1, .int p1), (2, .int p2), (3, .int p3)]) hx hb dX12_reads_169 hl (k := 0) rfl ex_276 (by decide) rfl (fun ls hl => ?_)
            refine lv_goto (tgt := 10) hx hb dX12_reads_172 (by decide) ?_
            exact ih_hloop_86 x_276 (by constructor <;> omega) f_89 hG _ _ hP hS hD hfr0 hfo_90 hfo_91 (by omega) ls (lv_sub hl [0, 1, 2, 3, 4] rfl)
  exact hloop_86 25 0 (by decide) f_64 hG _ _ hP hS hD hfr0 hfo_65 hfo_66 (by (try rw [ti_0]) <;> omega) ls hl
set_option maxHeartbeats 8000000 in
set_option maxRecDepth 100000 in
theorem s_X12_closes_k12 (l : Launch) (D : va_G) (cI cL cZ cR cG cH : ClassId) (Z : zT) (kd : Nat → Nat) (L : List Nat) (f : Nat → va_E) (hG : GI (okc cI cL cZ cR cG cH L kd) kd L f) (o0 : Nat) (mo0 : o0 ∈ L) (ko0 : kd o0 = 12) (p1 : Int32) (bp1 : (0 ≤ p1.toInt ∧ p1.toInt ≤ 13)) (p2 : Int32) : mPI l D cI cL cZ cR cG cH Z yX12_closes cX12_closes 6 (some .boolean) 2 45 [.ref o0, .int p1, .int p2] L f (fun (r : Int32) (f9 : Nat → va_E) => f = f9 ∧ (0 ≤ r.toInt ∧ r.toInt ≤ 1)) := by
  obtain ⟨dC, dI⟩ := D
  refine Met.ofW (cc := cX12_closes) (maxL := 6) (ret := (some .boolean)) (by decide) rfl ?_
  intro p e s m args below meth c s₁ B hml hv
  obtain ⟨rfl, hP, hK, hD0, hN, hZ⟩ := hv
  have hx := B.exec
  have hb := B.bytes
  have hr := B.returns
  have hU : ∀ w ∈ wsU, w.before _ s = true := fun w h => atoms_spec (ws := wU yX12_closes cX12_closes 6 (some .boolean)) B.pre w (List.mem_cons_of_mem _ h)
  have hown : s.vm.findClass RX12 = some m.cls := findClass_of_methodNamed B.named
  have hlocks := B.notSynchronized
  have hD := pl_in hD0
  have hS : va_S (fun q => q ∈ L) s.heap s.heap [] := va_S.rf
  have hl := lv_entry ([.ref o0, .int p1, .int p2]) (n := 6) (Nat.le_of_ble_eq_true rfl)
  rw [lg_entry_eq]
  generalize (lg_sl ([.ref o0, .int p1, .int p2]) ++ List.replicate (6 - (lg_sl ([.ref o0, .int p1, .int p2])).length) Slot.unset).toArray = ls at hl ⊢
  have hl : lv_has ls 6 [(0, .ref o0), (1, .int p1), (2, .int p2)] := hl
  have bp2 : ((-2147483648) ≤ p2.toInt ∧ p2.toInt ≤ 2147483647) := ⟨i32_lo _, i32_hi _⟩
  refine lv_iconst (v := 0) hx hb dX12_closes_0 (by decide) ?_
  refine lv_istore_n (lv' := [(3, .int 0), (0, .ref o0), (1, .int p1), (2, .int p2)]) hx hb dX12_closes_1 rfl hl (by decide) rfl (fun ls hl => ?_)
  have hloop_13 : ∀ (n : Nat), ∀ (y_14 : Int32), (0 ≤ y_14.toInt ∧ y_14.toInt ≤ 24) → ∀ (H : Heap) (locs : List Loc), va_P (dC, dI) vwCl (va_pl L f) H → va_S (fun q => q ∈ L) s.heap H locs → 24 - y_14.toInt < (n : Int) → ∀ (ls : Array Slot), lv_has ls 6 [(3, .int y_14), (0, .ref o0), (1, .int p1), (2, .int p2)] → W p l e (headSpec (wU yX12_closes cX12_closes 6 (some .boolean)) { frames := 2, cells := 0, slots := 0, locals := 45 }).room s m [.ref o0, .int p1, .int p2].toArray below meth c H locs 0 0 (MQ below (va_Qi (fun (r : Int32) (f9 : Nat → va_E) => f = f9 ∧ (0 ≤ r.toInt ∧ r.toInt ≤ 1)) (qP (dC, dI) cI cL cZ cR cG cH L) (fun q => q ∈ L)) [.ref o0, .int p1, .int p2].toArray s 0 0 (fun q => q ∈ L)) (F0 m 2 ls []) := by
    intro n
    induction n with
    | zero => intro y_14 by_14 H locs hP hS hmuhloop_13 ls hl; exfalso; omega
    | succ n ih_hloop_13 =>
      intro y_14 by_14 H locs hP hS hmuhloop_13 ls hl
      refine lv_iload_n hx hb dX12_closes_2 rfl (lv_at hl 0 rfl) ?_
      refine lv_iconst (v := 3) hx hb dX12_closes_3 (by decide) ?_
      refine lv_aload_n hx hb dX12_closes_4 rfl (lv_at hl 1 rfl) ?_
      obtain ⟨a_16, a_17, a_18, v_19, a_20, v_21, v_22, v_23, v_24, v_25, v_26, v_27, v_28, v_29, v_30, a_31, a_32, a_33, a_34, a_35, a_36, a_37, a_38, v_39, v_40, v_41, v_42, v_43, a_44, v_45, a_46, a_47, v_48, v_49, a_50, v_51, a_52, a_53, v_54, v_55, a_56, a_57, a_58, v_59, a_60, a_61, a_62, a_63, a_64, a_65, a_66, a_67, a_68, v_69, v_70, a_71, hfo_72, fa_73⟩ := un12 (hG _ mo0) ko0
      obtain ⟨ma_16, ka_16⟩ := fa12_0 fa_73
      obtain ⟨ma_32, ka_32⟩ := fa12_16 fa_73
      obtain ⟨ma_33, ka_33⟩ := fa12_17 fa_73
      obtain ⟨ma_34, ka_34⟩ := fa12_18 fa_73
      obtain ⟨ma_35, ka_35⟩ := fa12_19 fa_73
      refine tk_getP (D := (dC, dI)) (ci := 12) (v := .ref a_16) (C := RX12) (T := TX12) (N := 56) hx hb hU inlX12 hown hK hP mo0 hfo_72 rfl 0 (by decide) (hU _ wd_169) (fun _ h9 => h9) rfl dX12_closes_5 ?_
      refine lv_bipush (v := 17) hx hb dX12_closes_8 (by decide) ?_
      obtain ⟨g_75, hfo_74, hbg_75⟩ := un_575 (hG _ ma_16) ka_16
      refine tk_ildP hx hb hK hP 0 ma_16 hfo_74 rfl (vp_in_nI (n := 17) (by decide) (by decide)) dX12_closes_10 ?_
      refine lv_topi (fun x_76 ex_76 => ?_)
      have bx_76 : (0 ≤ x_76.toInt ∧ x_76.toInt ≤ 8) := by rw [ex_76]; exact hbg_75.2.2.1 _ (by decide) (by decide) (by decide)
      refine lv_imul hx hb dX12_closes_11 ?_
      refine lv_topi (fun x_77 ex_77 => ?_)
      have hx_77 : x_77.toInt = 3 * x_76.toInt := by rw [ex_77, ml_I (by rw [ti_3]; omega) (by rw [ti_3]; omega), ti_3]
      have bx_77 : (0 ≤ x_77.toInt ∧ x_77.toInt ≤ 24) := by constructor <;> omega
      refine lv_icmp_ge (tgt := 65) hx hb dX12_closes_12 (by decide) (fun c_78 => ?_) (fun c_78 => ?_)
      · skip
        rw [Int32.le_iff_toInt_le] at c_78
        refine lv_iconst (v := 0) hx hb dX12_closes_65 (by decide) ?_
        refine lv_istore_n (lv' := [(3, .int 0), (0, .ref o0), (1, .int p1), (2, .int p2)]) hx hb dX12_closes_66 rfl hl (by decide) rfl (fun ls hl => ?_)
        have hloop_97 : ∀ (n : Nat), ∀ (y_98 : Int32), (0 ≤ y_98.toInt ∧ y_98.toInt ≤ 104) → ∀ (H : Heap) (locs : List Loc), va_P (dC, dI) vwCl (va_pl L f) H → va_S (fun q => q ∈ L) s.heap H locs → 104 - y_98.toInt < (n : Int) → ∀ (ls : Array Slot), lv_has ls 6 [(3, .int y_98), (0, .ref o0), (1, .int p1), (2, .int p2)] → W p l e (headSpec (wU yX12_closes cX12_closes 6 (some .boolean)) { frames := 2, cells := 0, slots := 0, locals := 45 }).room s m [.ref o0, .int p1, .int p2].toArray below meth c H locs 0 0 (MQ below (va_Qi (fun (r : Int32) (f9 : Nat → va_E) => f = f9 ∧ (0 ≤ r.toInt ∧ r.toInt ≤ 1)) (qP (dC, dI) cI cL cZ cR cG cH L) (fun q => q ∈ L)) [.ref o0, .int p1, .int p2].toArray s 0 0 (fun q => q ∈ L)) (F0 m 67 ls []) := by
          intro n
          induction n with
          | zero => intro y_98 by_98 H locs hP hS hmuhloop_97 ls hl; exfalso; omega
          | succ n ih_hloop_97 =>
            intro y_98 by_98 H locs hP hS hmuhloop_97 ls hl
            refine lv_iload_n hx hb dX12_closes_67 rfl (lv_at hl 0 rfl) ?_
            refine lv_aload_n hx hb dX12_closes_68 rfl (lv_at hl 1 rfl) ?_
            refine tk_getP (D := (dC, dI)) (ci := 12) (v := .ref a_35) (C := RX12) (T := TX12) (N := 56) hx hb hU inlX12 hown hK hP mo0 hfo_72 rfl 19 (by decide) (hU _ wd_179) (fun _ h9 => h9) rfl dX12_closes_69 ?_
            refine lv_iload_n hx hb dX12_closes_72 rfl (lv_at hl 2 rfl) ?_
            obtain ⟨g_101, hfo_100, hbg_101⟩ := un_587 (hG _ ma_35) ka_35
            refine tk_ildP hx hb hK hP 0 ma_35 hfo_100 rfl (vp_in_iff.mpr (by constructor <;> omega)) dX12_closes_73 ?_
            refine lv_topi (fun x_102 ex_102 => ?_)
            have hx_102 : 0 ≤ x_102.toInt ∧ x_102.toInt ≤ 8 * p1.toInt := by have hc9 := cl_I (i := p1) (by omega); have h8 := hbg_101 (Int32.toNatClampNeg p1); rw [ex_102]; constructor <;> omega
            have bx_102 : (0 ≤ x_102.toInt ∧ x_102.toInt ≤ 104) := by constructor <;> omega
            refine lv_icmp_ge (tgt := 170) hx hb dX12_closes_74 (by decide) (fun c_103 => ?_) (fun c_103 => ?_)
            · skip
              rw [Int32.le_iff_toInt_le] at c_103
              refine lv_iconst (v := 1) hx hb dX12_closes_170 (by decide) ?_
              exact W.zret (v := 1) (ty := .boolean) hx hb hr rfl (fun t ht hW => ⟨⟨1, f, rfl, ⟨rfl, (by decide)⟩, by rw [ht]; exact hP, va_K.moved hW.alike hK, pl_in hD⟩, hS.F ht⟩) hS.2.2 dX12_closes_171
            · skip
              rw [Int32.le_iff_toInt_le] at c_103
              refine lv_iconst (v := 0) hx hb dX12_closes_77 (by decide) ?_
              refine lv_istore (lv' := [(4, .int 0), (3, .int y_98), (0, .ref o0), (1, .int p1), (2, .int p2)]) hx hb dX12_closes_78 hl (by decide) rfl (fun ls hl => ?_)
              refine lv_iconst (v := 0) hx hb dX12_closes_80 (by decide) ?_
              refine lv_istore (lv' := [(5, .int 0), (4, .int 0), (3, .int y_98), (0, .ref o0), (1, .int p1), (2, .int p2)]) hx hb dX12_closes_81 hl (by decide) rfl (fun ls hl => ?_)
              have hloop_128 : ∀ (n : Nat), ∀ (y_129 : Int32), (0 ≤ y_129.toInt ∧ y_129.toInt ≤ 3) → ∀ (y_130 : Int32), (0 ≤ y_130.toInt ∧ y_130.toInt ≤ 1) → ∀ (H : Heap) (locs : List Loc), va_P (dC, dI) vwCl (va_pl L f) H → va_S (fun q => q ∈ L) s.heap H locs → 3 - y_129.toInt < (n : Int) → ∀ (ls : Array Slot), lv_has ls 6 [(5, .int y_129), (4, .int y_130), (3, .int y_98), (0, .ref o0), (1, .int p1), (2, .int p2)] → W p l e (headSpec (wU yX12_closes cX12_closes 6 (some .boolean)) { frames := 2, cells := 0, slots := 0, locals := 45 }).room s m [.ref o0, .int p1, .int p2].toArray below meth c H locs 0 0 (MQ below (va_Qi (fun (r : Int32) (f9 : Nat → va_E) => f = f9 ∧ (0 ≤ r.toInt ∧ r.toInt ≤ 1)) (qP (dC, dI) cI cL cZ cR cG cH L) (fun q => q ∈ L)) [.ref o0, .int p1, .int p2].toArray s 0 0 (fun q => q ∈ L)) (F0 m 83 ls []) := by
                intro n
                induction n with
                | zero => intro y_129 by_129 y_130 by_130 H locs hP hS hmuhloop_128 ls hl; exfalso; omega
                | succ n ih_hloop_128 =>
                  intro y_129 by_129 y_130 by_130 H locs hP hS hmuhloop_128 ls hl
                  refine lv_iload hx hb dX12_closes_83 (lv_at hl 0 rfl) ?_
                  refine lv_iconst (v := 3) hx hb dX12_closes_85 (by decide) ?_
                  refine lv_icmp_ge (tgt := 157) hx hb dX12_closes_86 (by decide) (fun c_132 => ?_) (fun c_132 => ?_)
                  · skip
                    rw [Int32.le_iff_toInt_le, ti_3] at c_132
                    refine lv_iload hx hb dX12_closes_157 (lv_at hl 1 rfl) ?_
                    refine lv_if_ne (tgt := 164) hx hb dX12_closes_159 (by decide) (fun c_133 => ?_) (fun c_133 => ?_)
                    · skip
                      rw [← Int32.toInt_inj, ti_0] at c_133
                      obtain ⟨x_134, ex_134⟩ : ∃ y : Int32, y_98 + 1 = y := ⟨_, rfl⟩
                      have hx_134 : x_134.toInt = y_98.toInt + 1 := by rw [← ex_134, ad_I (by rw [ti_1]; omega) (by rw [ti_1]; omega), ti_1]
                      have bx_134 : (1 ≤ x_134.toInt ∧ x_134.toInt ≤ 104) := by constructor <;> omega
                      refine lv_iinc (v := x_134) (lv' := [(3, .int x_134), (5, .int y_129), (4, .int y_130), (0, .ref o0), (1, .int p1), (2, .int p2)]) hx hb dX12_closes_164 hl (k := 2) rfl ex_134 (by decide) rfl (fun ls hl => ?_)
                      refine lv_goto (tgt := 67) hx hb dX12_closes_167 (by decide) ?_
                      exact ih_hloop_97 x_134 (by constructor <;> omega) _ _ hP hS (by omega) ls (lv_sub hl [0, 3, 4, 5] rfl)
                    · skip
                      rw [← Int32.toInt_inj, ti_0] at c_133
                      refine lv_iconst (v := 0) hx hb dX12_closes_162 (by decide) ?_
                      exact W.zret (v := 0) (ty := .boolean) hx hb hr rfl (fun t ht hW => ⟨⟨0, f, rfl, ⟨rfl, (by decide)⟩, by rw [ht]; exact hP, va_K.moved hW.alike hK, pl_in hD⟩, hS.F ht⟩) hS.2.2 dX12_closes_163
                  · skip
                    rw [Int32.le_iff_toInt_le, ti_3] at c_132
                    refine lv_iload hx hb dX12_closes_89 (lv_at hl 1 rfl) ?_
                    have hcut_137 : ∀ (y_135 : Int32), (0 ≤ y_135.toInt ∧ y_135.toInt ≤ 1) → ∀ (H : Heap) (locs : List Loc), va_P (dC, dI) vwCl (va_pl L f) H → va_S (fun q => q ∈ L) s.heap H locs → ∀ (ls : Array Slot), lv_has ls 6 [(5, .int y_129), (4, .int y_130), (3, .int y_98), (0, .ref o0), (1, .int p1), (2, .int p2)] → W p l e (headSpec (wU yX12_closes cX12_closes 6 (some .boolean)) { frames := 2, cells := 0, slots := 0, locals := 45 }).room s m [.ref o0, .int p1, .int p2].toArray below meth c H locs 0 0 (MQ below (va_Qi (fun (r : Int32) (f9 : Nat → va_E) => f = f9 ∧ (0 ≤ r.toInt ∧ r.toInt ≤ 1)) (qP (dC, dI) cI cL cZ cR cG cH L) (fun q => q ∈ L)) [.ref o0, .int p1, .int p2].toArray s 0 0 (fun q => q ∈ L)) (F0 m 149 ls [.int y_135]) := by
                      intro y_135 by_135 H locs hP hS ls hl
                      refine lv_istore (lv' := [(4, .int y_135), (5, .int y_129), (3, .int y_98), (0, .ref o0), (1, .int p1), (2, .int p2)]) hx hb dX12_closes_149 hl (by decide) rfl (fun ls hl => ?_)
                      obtain ⟨x_138, ex_138⟩ : ∃ y : Int32, y_129 + 1 = y := ⟨_, rfl⟩
                      have hx_138 : x_138.toInt = y_129.toInt + 1 := by rw [← ex_138, ad_I (by rw [ti_1]; omega) (by rw [ti_1]; omega), ti_1]
                      have bx_138 : (1 ≤ x_138.toInt ∧ x_138.toInt ≤ 3) := by constructor <;> omega
                      refine lv_iinc (v := x_138) (lv' := [(5, .int x_138), (4, .int y_135), (3, .int y_98), (0, .ref o0), (1, .int p1), (2, .int p2)]) hx hb dX12_closes_151 hl (k := 1) rfl ex_138 (by decide) rfl (fun ls hl => ?_)
                      refine lv_goto (tgt := 83) hx hb dX12_closes_154 (by decide) ?_
                      exact ih_hloop_128 x_138 (by constructor <;> omega) y_135 (by constructor <;> omega) _ _ hP hS (by omega) ls (lv_sub hl [0, 1, 2, 3, 4, 5] rfl)
                    refine lv_if_ne (tgt := 144) hx hb dX12_closes_91 (by decide) (fun c_139 => ?_) (fun c_139 => ?_)
                    · skip
                      rw [← Int32.toInt_inj, ti_0] at c_139
                      refine lv_iconst (v := 1) hx hb dX12_closes_144 (by decide) ?_
                      refine lv_goto (tgt := 149) hx hb dX12_closes_145 (by decide) ?_
                      exact hcut_137 1 (by decide) _ _ hP hS ls (lv_sub hl [0, 1, 2, 3, 4, 5] rfl)
                    · skip
                      rw [← Int32.toInt_inj, ti_0] at c_139
                      refine lv_aload_n hx hb dX12_closes_94 rfl (lv_at hl 3 rfl) ?_
                      refine tk_getP (D := (dC, dI)) (ci := 12) (v := .ref a_34) (C := RX12) (T := TX12) (N := 56) hx hb hU inlX12 hown hK hP mo0 hfo_72 rfl 18 (by decide) (hU _ wd_178) (fun _ h9 => h9) rfl dX12_closes_95 ?_
                      refine lv_iload_n hx hb dX12_closes_98 rfl (lv_at hl 4 rfl) ?_
                      obtain ⟨g_141, hfo_140, hbg_141⟩ := un_586 (hG _ ma_34) ka_34
                      obtain ⟨a_142, hga_142, ma_142, ka_142⟩ := hbg_141 (Int32.toNatClampNeg p1) (in_lt (vp_in_iff.mpr (by constructor <;> omega)))
                      refine tk_aldA hx hb hK hP 4 ma_34 hfo_140 rfl (vp_in_iff.mpr (by constructor <;> omega)) hga_142 dX12_closes_99 ?_
                      refine lv_iconst (v := 3) hx hb dX12_closes_100 (by decide) ?_
                      refine lv_iload_n hx hb dX12_closes_101 rfl (lv_at hl 2 rfl) ?_
                      refine lv_imul hx hb dX12_closes_102 ?_
                      refine lv_topi (fun x_143 ex_143 => ?_)
                      have hx_143 : x_143.toInt = 3 * y_98.toInt := by rw [ex_143, ml_I (by rw [ti_3]; omega) (by rw [ti_3]; omega), ti_3]
                      have bx_143 : (0 ≤ x_143.toInt ∧ x_143.toInt ≤ 309) := by constructor <;> omega
                      refine lv_iload hx hb dX12_closes_103 (lv_at hl 0 rfl) ?_
                      refine lv_iadd hx hb dX12_closes_105 ?_
                      refine lv_topi (fun x_144 ex_144 => ?_)
                      have hx_144 : x_144.toInt = x_143.toInt + y_129.toInt := by rw [ex_144, ad_I (by omega) (by omega)]
                      have bx_144 : (0 ≤ x_144.toInt ∧ x_144.toInt ≤ 311) := by constructor <;> omega
                      obtain ⟨g_146, hfo_145, hbg_146⟩ := un_585 (hG _ ma_142) ka_142
                      refine tk_ildP hx hb hK hP 0 ma_142 hfo_145 rfl (vp_in_iff.mpr (by constructor <;> omega)) dX12_closes_106 ?_
                      refine lv_topi (fun x_147 ex_147 => ?_)
                      have bx_147 : ((-2147483648) ≤ x_147.toInt ∧ x_147.toInt ≤ 2147483647) := ⟨i32_lo _, i32_hi _⟩
                      refine lv_if_eq (tgt := 148) hx hb dX12_closes_107 (by decide) (fun c_148 => ?_) (fun c_148 => ?_)
                      · skip
                        rw [← Int32.toInt_inj, ti_0] at c_148
                        refine lv_iconst (v := 0) hx hb dX12_closes_148 (by decide) ?_
                        exact hcut_137 0 (by decide) _ _ hP hS ls (lv_sub hl [0, 1, 2, 3, 4, 5] rfl)
                      · skip
                        rw [← Int32.toInt_inj, ti_0] at c_148
                        refine lv_aload_n hx hb dX12_closes_110 rfl (lv_at hl 3 rfl) ?_
                        refine lv_iconst (v := 3) hx hb dX12_closes_111 (by decide) ?_
                        refine lv_aload_n hx hb dX12_closes_112 rfl (lv_at hl 3 rfl) ?_
                        refine tk_getP (D := (dC, dI)) (ci := 12) (v := .ref a_33) (C := RX12) (T := TX12) (N := 56) hx hb hU inlX12 hown hK hP mo0 hfo_72 rfl 17 (by decide) (hU _ wd_177) (fun _ h9 => h9) rfl dX12_closes_113 ?_
                        refine lv_iload_n hx hb dX12_closes_116 rfl (lv_at hl 4 rfl) ?_
                        obtain ⟨g_150, hfo_149, hbg_150⟩ := un_584 (hG _ ma_33) ka_33
                        obtain ⟨a_151, hga_151, ma_151, ka_151⟩ := hbg_150 (Int32.toNatClampNeg p1) (in_lt (vp_in_iff.mpr (by constructor <;> omega)))
                        refine tk_aldA hx hb hK hP 4 ma_33 hfo_149 rfl (vp_in_iff.mpr (by constructor <;> omega)) hga_151 dX12_closes_117 ?_
                        refine lv_iload_n hx hb dX12_closes_118 rfl (lv_at hl 2 rfl) ?_
                        obtain ⟨g_153, hfo_152, hbg_153⟩ := un_583 (hG _ ma_151) ka_151
                        refine tk_ildP hx hb hK hP 0 ma_151 hfo_152 rfl (vp_in_iff.mpr (by constructor <;> omega)) dX12_closes_119 ?_
                        refine lv_topi (fun x_154 ex_154 => ?_)
                        have bx_154 : (0 ≤ x_154.toInt ∧ x_154.toInt ≤ 7) := by rw [ex_154]; exact hbg_153 _
                        refine lv_imul hx hb dX12_closes_120 ?_
                        refine lv_topi (fun x_155 ex_155 => ?_)
                        have hx_155 : x_155.toInt = 3 * x_154.toInt := by rw [ex_155, ml_I (by rw [ti_3]; omega) (by rw [ti_3]; omega), ti_3]
                        have bx_155 : (0 ≤ x_155.toInt ∧ x_155.toInt ≤ 21) := by constructor <;> omega
                        refine lv_iload hx hb dX12_closes_121 (lv_at hl 0 rfl) ?_
                        refine lv_iadd hx hb dX12_closes_123 ?_
                        refine lv_topi (fun x_156 ex_156 => ?_)
                        have hx_156 : x_156.toInt = x_155.toInt + y_129.toInt := by rw [ex_156, ad_I (by omega) (by omega)]
                        have bx_156 : (0 ≤ x_156.toInt ∧ x_156.toInt ≤ 23) := by constructor <;> omega
                        refine lv_iconst (v := 1) hx hb dX12_closes_124 (by decide) ?_
                        refine lv_aload_n hx hb dX12_closes_125 rfl (lv_at hl 3 rfl) ?_
                        refine tk_getP (D := (dC, dI)) (ci := 12) (v := .ref a_34) (C := RX12) (T := TX12) (N := 56) hx hb hU inlX12 hown hK hP mo0 hfo_72 rfl 18 (by decide) (hU _ wd_178) (fun _ h9 => h9) rfl dX12_closes_126 ?_
                        refine lv_iload_n hx hb dX12_closes_129 rfl (lv_at hl 4 rfl) ?_
                        obtain ⟨a_157, hga_157, ma_157, ka_157⟩ := hbg_141 (Int32.toNatClampNeg p1) (in_lt (vp_in_iff.mpr (by constructor <;> omega)))
                        refine tk_aldA hx hb hK hP 4 ma_34 hfo_140 rfl (vp_in_iff.mpr (by constructor <;> omega)) hga_157 dX12_closes_130 ?_
                        refine lv_iconst (v := 3) hx hb dX12_closes_131 (by decide) ?_
                        refine lv_iload_n hx hb dX12_closes_132 rfl (lv_at hl 2 rfl) ?_
                        refine lv_imul hx hb dX12_closes_133 ?_
                        refine lv_topi (fun x_158 ex_158 => ?_)
                        have hx_158 : x_158.toInt = 3 * y_98.toInt := by rw [ex_158, ml_I (by rw [ti_3]; omega) (by rw [ti_3]; omega), ti_3]
                        have bx_158 : (0 ≤ x_158.toInt ∧ x_158.toInt ≤ 309) := by constructor <;> omega
                        refine lv_iload hx hb dX12_closes_134 (lv_at hl 0 rfl) ?_
                        refine lv_iadd hx hb dX12_closes_136 ?_
                        refine lv_topi (fun x_159 ex_159 => ?_)
                        have hx_159 : x_159.toInt = x_158.toInt + y_129.toInt := by rw [ex_159, ad_I (by omega) (by omega)]
                        have bx_159 : (0 ≤ x_159.toInt ∧ x_159.toInt ≤ 311) := by constructor <;> omega
                        obtain ⟨g_161, hfo_160, hbg_161⟩ := un_585 (hG _ ma_157) ka_157
                        refine tk_ildP hx hb hK hP 0 ma_157 hfo_160 rfl (vp_in_iff.mpr (by constructor <;> omega)) dX12_closes_137 ?_
                        refine lv_topi (fun x_162 ex_162 => ?_)
                        have bx_162 : ((-2147483648) ≤ x_162.toInt ∧ x_162.toInt ≤ 2147483647) := ⟨i32_lo _, i32_hi _⟩
                        refine tk_ViP (As := [.int x_156, .int 1, .int x_162]) (rest := []) (n := 3) hx hb hml hown hU hN hZ (s_X12_isDone_k12 l (dC, dI) cI cL cZ cR cG cH Z kd L f hG o0 mo0 ko0 x_156 (by constructor <;> omega) 1 (by decide) x_162) wd_898 wd_899 wd_900 wd_5 wd_901 (by decide +kernel) ⟨Nat.le_of_ble_eq_true rfl, Nat.le_of_ble_eq_true rfl⟩ hK hP hD hS mo0 hfo_72 12 rfl rfl rfl hl.1 rfl (Nat.le_of_ble_eq_true rfl) dX12_closes_138 ⟨Nat.le_of_ble_eq_true rfl, Nat.le_of_ble_eq_true rfl⟩ (fun x_163 f_164 H locs hw hP hD hS => ?_)
                        obtain ⟨rfl, bx_163⟩ := hw
                        refine lv_if_eq (tgt := 148) hx hb dX12_closes_141 (by decide) (fun c_166 => ?_) (fun c_166 => ?_)
                        · skip
                          rw [← Int32.toInt_inj, ti_0] at c_166
                          refine lv_iconst (v := 0) hx hb dX12_closes_148 (by decide) ?_
                          exact hcut_137 0 (by decide) _ _ hP hS ls (lv_sub hl [0, 1, 2, 3, 4, 5] rfl)
                        · skip
                          rw [← Int32.toInt_inj, ti_0] at c_166
                          refine lv_iconst (v := 1) hx hb dX12_closes_144 (by decide) ?_
                          refine lv_goto (tgt := 149) hx hb dX12_closes_145 (by decide) ?_
                          exact hcut_137 1 (by decide) _ _ hP hS ls (lv_sub hl [0, 1, 2, 3, 4, 5] rfl)
              exact hloop_128 4 0 (by decide) 0 (by decide) _ _ hP hS (by (try rw [ti_0]) <;> omega) ls hl
        exact hloop_97 105 0 (by decide) _ _ hP hS (by (try rw [ti_0]) <;> omega) ls hl
      · skip
        rw [Int32.le_iff_toInt_le] at c_78
        refine lv_iload_n hx hb dX12_closes_15 rfl (lv_at hl 3 rfl) ?_
        refine lv_iload_n hx hb dX12_closes_16 rfl (lv_at hl 0 rfl) ?_
        refine lv_iconst (v := 3) hx hb dX12_closes_17 (by decide) ?_
        refine lv_idiv hx hb dX12_closes_18 (by decide) ?_
        refine lv_topi (fun x_167 ex_167 => ?_)
        have hx_167 : x_167.toInt = y_14.toInt / 3 := by rw [ex_167, dv_I (by omega) (by rw [ti_3]; omega), ti_3]
        have bx_167 : (0 ≤ x_167.toInt ∧ x_167.toInt ≤ 7) := by constructor <;> omega
        refine lv_ishr hx hb dX12_closes_19 ?_
        refine lv_topi (fun x_168 ex_168 => ?_)
        have bx_168 : ((-2147483648) ≤ x_168.toInt ∧ x_168.toInt ≤ 2147483647) := ⟨i32_lo _, i32_hi _⟩
        refine lv_iconst (v := 1) hx hb dX12_closes_20 (by decide) ?_
        refine lv_iand hx hb dX12_closes_21 ?_
        refine lv_topi (fun x_169 ex_169 => ?_)
        have bx_169 : (0 ≤ x_169.toInt ∧ x_169.toInt ≤ 1) := by rw [ex_169]; have h8 := an_C x_168 (m := 1) (by decide); rw [ti_1] at h8; exact h8
        refine lv_iconst (v := 1) hx hb dX12_closes_22 (by decide) ?_
        refine lv_icmp_ne (tgt := 59) hx hb dX12_closes_23 (by decide) (fun c_170 => ?_) (fun c_170 => ?_)
        · skip
          rw [← Int32.toInt_inj, ti_1] at c_170
          obtain ⟨x_171, ex_171⟩ : ∃ y : Int32, y_14 + 1 = y := ⟨_, rfl⟩
          have hx_171 : x_171.toInt = y_14.toInt + 1 := by rw [← ex_171, ad_I (by rw [ti_1]; omega) (by rw [ti_1]; omega), ti_1]
          have bx_171 : (1 ≤ x_171.toInt ∧ x_171.toInt ≤ 24) := by constructor <;> omega
          refine lv_iinc (v := x_171) (lv' := [(3, .int x_171), (0, .ref o0), (1, .int p1), (2, .int p2)]) hx hb dX12_closes_59 hl (k := 0) rfl ex_171 (by decide) rfl (fun ls hl => ?_)
          refine lv_goto (tgt := 2) hx hb dX12_closes_62 (by decide) ?_
          exact ih_hloop_13 x_171 (by constructor <;> omega) _ _ hP hS (by omega) ls (lv_sub hl [0, 1, 2, 3] rfl)
        · skip
          rw [← Int32.toInt_inj, ti_1] at c_170
          refine lv_iload_n hx hb dX12_closes_26 rfl (lv_at hl 0 rfl) ?_
          refine lv_iconst (v := 3) hx hb dX12_closes_27 (by decide) ?_
          refine lv_irem hx hb dX12_closes_28 (by decide) ?_
          refine lv_topi (fun x_172 ex_172 => ?_)
          have hx_172 : x_172.toInt = y_14.toInt % 3 := by rw [ex_172, rm_I (by omega) (by rw [ti_3]; omega), ti_3]
          have bx_172 : (0 ≤ x_172.toInt ∧ x_172.toInt ≤ 2) := by constructor <;> omega
          refine lv_aload_n hx hb dX12_closes_29 rfl (lv_at hl 1 rfl) ?_
          refine lv_iload_n hx hb dX12_closes_30 rfl (lv_at hl 0 rfl) ?_
          refine lv_iconst (v := 3) hx hb dX12_closes_31 (by decide) ?_
          refine lv_idiv hx hb dX12_closes_32 (by decide) ?_
          refine lv_topi (fun x_173 ex_173 => ?_)
          have hx_173 : x_173.toInt = y_14.toInt / 3 := by rw [ex_173, dv_I (by omega) (by rw [ti_3]; omega), ti_3]
          have bx_173 : (0 ≤ x_173.toInt ∧ x_173.toInt ≤ 7) := by constructor <;> omega
          refine lv_iconst (v := 3) hx hb dX12_closes_33 (by decide) ?_
          refine tk_ViP (As := [.int x_173, .int 3]) (rest := [.int x_172]) (n := 2) hx hb hml hown hU hN hZ (s_X12_ofRule_k12_c3_3 l (dC, dI) cI cL cZ cR cG cH Z kd L f hG o0 mo0 ko0 x_173 (by constructor <;> omega)) wd_894 wd_895 wd_896 wd_5 wd_897 (by decide +kernel) ⟨Nat.le_of_ble_eq_true rfl, Nat.le_of_ble_eq_true rfl⟩ hK hP hD hS mo0 hfo_72 12 rfl rfl rfl hl.1 rfl (Nat.le_of_ble_eq_true rfl) dX12_closes_34 ⟨Nat.le_of_ble_eq_true rfl, Nat.le_of_ble_eq_true rfl⟩ (fun x_174 f_175 H locs hw hP hD hS => ?_)
          obtain ⟨rfl, bx_174⟩ := hw
          refine lv_icmp_ge (tgt := 59) hx hb dX12_closes_37 (by decide) (fun c_177 => ?_) (fun c_177 => ?_)
          · skip
            rw [Int32.le_iff_toInt_le] at c_177
            obtain ⟨x_178, ex_178⟩ : ∃ y : Int32, y_14 + 1 = y := ⟨_, rfl⟩
            have hx_178 : x_178.toInt = y_14.toInt + 1 := by rw [← ex_178, ad_I (by rw [ti_1]; omega) (by rw [ti_1]; omega), ti_1]
            have bx_178 : (1 ≤ x_178.toInt ∧ x_178.toInt ≤ 24) := by constructor <;> omega
            refine lv_iinc (v := x_178) (lv' := [(3, .int x_178), (0, .ref o0), (1, .int p1), (2, .int p2)]) hx hb dX12_closes_59 hl (k := 0) rfl ex_178 (by decide) rfl (fun ls hl => ?_)
            refine lv_goto (tgt := 2) hx hb dX12_closes_62 (by decide) ?_
            exact ih_hloop_13 x_178 (by constructor <;> omega) _ _ hP hS (by omega) ls (lv_sub hl [0, 1, 2, 3] rfl)
          · skip
            rw [Int32.le_iff_toInt_le] at c_177
            refine lv_aload_n hx hb dX12_closes_40 rfl (lv_at hl 1 rfl) ?_
            refine lv_iload_n hx hb dX12_closes_41 rfl (lv_at hl 0 rfl) ?_
            refine lv_iconst (v := 1) hx hb dX12_closes_42 (by decide) ?_
            refine lv_aload_n hx hb dX12_closes_43 rfl (lv_at hl 1 rfl) ?_
            refine tk_getP (D := (dC, dI)) (ci := 12) (v := .ref a_32) (C := RX12) (T := TX12) (N := 56) hx hb hU inlX12 hown hK hP mo0 hfo_72 rfl 16 (by decide) (hU _ wd_176) (fun _ h9 => h9) rfl dX12_closes_44 ?_
            refine lv_iload_n hx hb dX12_closes_47 rfl (lv_at hl 2 rfl) ?_
            obtain ⟨g_180, hfo_179, hbg_180⟩ := un_582 (hG _ ma_32) ka_32
            obtain ⟨a_181, hga_181, ma_181, ka_181⟩ := hbg_180 (Int32.toNatClampNeg p1) (in_lt (vp_in_iff.mpr (by constructor <;> omega)))
            refine tk_aldA hx hb hK hP 4 ma_32 hfo_179 rfl (vp_in_iff.mpr (by constructor <;> omega)) hga_181 dX12_closes_48 ?_
            refine lv_iload_n hx hb dX12_closes_49 rfl (lv_at hl 0 rfl) ?_
            obtain ⟨g_183, hfo_182, hbg_183⟩ := un_581 (hG _ ma_181) ka_181
            refine tk_ildP hx hb hK hP 0 ma_181 hfo_182 rfl (vp_in_iff.mpr (by constructor <;> omega)) dX12_closes_50 ?_
            refine lv_topi (fun x_184 ex_184 => ?_)
            have bx_184 : ((-2147483648) ≤ x_184.toInt ∧ x_184.toInt ≤ 2147483647) := ⟨i32_lo _, i32_hi _⟩
            refine tk_ViP (As := [.int y_14, .int 1, .int x_184]) (rest := []) (n := 3) hx hb hml hown hU hN hZ (s_X12_isDone_k12 l (dC, dI) cI cL cZ cR cG cH Z kd L f hG o0 mo0 ko0 y_14 (by constructor <;> omega) 1 (by decide) x_184) wd_898 wd_899 wd_900 wd_5 wd_901 (by decide +kernel) ⟨Nat.le_of_ble_eq_true rfl, Nat.le_of_ble_eq_true rfl⟩ hK hP hD hS mo0 hfo_72 12 rfl rfl rfl hl.1 rfl (Nat.le_of_ble_eq_true rfl) dX12_closes_51 ⟨Nat.le_of_ble_eq_true rfl, Nat.le_of_ble_eq_true rfl⟩ (fun x_185 f_186 H locs hw hP hD hS => ?_)
            obtain ⟨rfl, bx_185⟩ := hw
            refine lv_if_eq (tgt := 59) hx hb dX12_closes_54 (by decide) (fun c_188 => ?_) (fun c_188 => ?_)
            · skip
              rw [← Int32.toInt_inj, ti_0] at c_188
              obtain ⟨x_189, ex_189⟩ : ∃ y : Int32, y_14 + 1 = y := ⟨_, rfl⟩
              have hx_189 : x_189.toInt = y_14.toInt + 1 := by rw [← ex_189, ad_I (by rw [ti_1]; omega) (by rw [ti_1]; omega), ti_1]
              have bx_189 : (1 ≤ x_189.toInt ∧ x_189.toInt ≤ 24) := by constructor <;> omega
              refine lv_iinc (v := x_189) (lv' := [(3, .int x_189), (0, .ref o0), (1, .int p1), (2, .int p2)]) hx hb dX12_closes_59 hl (k := 0) rfl ex_189 (by decide) rfl (fun ls hl => ?_)
              refine lv_goto (tgt := 2) hx hb dX12_closes_62 (by decide) ?_
              exact ih_hloop_13 x_189 (by constructor <;> omega) _ _ hP hS (by omega) ls (lv_sub hl [0, 1, 2, 3] rfl)
            · skip
              rw [← Int32.toInt_inj, ti_0] at c_188
              refine lv_iconst (v := 0) hx hb dX12_closes_57 (by decide) ?_
              exact W.zret (v := 0) (ty := .boolean) hx hb hr rfl (fun t ht hW => ⟨⟨0, f, rfl, ⟨rfl, (by decide)⟩, by rw [ht]; exact hP, va_K.moved hW.alike hK, pl_in hD⟩, hS.F ht⟩) hS.2.2 dX12_closes_58
  exact hloop_13 25 0 (by decide) _ _ hP hS (by (try rw [ti_0]) <;> omega) ls hl
