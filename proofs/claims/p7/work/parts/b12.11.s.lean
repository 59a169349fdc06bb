set_option maxHeartbeats 8000000 in
set_option maxRecDepth 100000 in
theorem s_X12_aligns_k12 (l : Launch) (D : va_G) (cI cL cZ cR cG cH : ClassId) (Z : zT) (kd : Nat → Nat) (L : List Nat) (n_ : Nat) (f : Nat → va_E) (hG : GI (okc cI cL cZ cR cG cH L kd) kd L f) (o0 : Nat) (mo0 : o0 ∈ L) (ko0 : kd o0 = 12) (p1 : Int32) (bp1 : (0 ≤ p1.toInt ∧ p1.toInt ≤ 12)) (p2 : Int32) (bp2 : (0 ≤ p2.toInt ∧ p2.toInt ≤ 8)) (p3 : Int32) (bp3 : (0 ≤ p3.toInt ∧ p3.toInt ≤ 1)) (p4 : Int32) (bp4 : (0 ≤ p4.toInt ∧ p4.toInt ≤ 13)) (p5 : Int32) (hpreo0 : ∀ (w23 : Int32) (w35 : Int32), fldI (f o0) 23 = some w23 → fldI (f o0) 35 = some w35 → p1.toInt ≤ w23.toInt ∧ p2.toInt ≤ w35.toInt) (hxrel : p4.toInt ≤ p1.toInt + 1 - p3.toInt) (hrk : 13 - p4.toInt < (n_ : Int)) : mPI l D cI cL cZ cR cG cH Z yX12_aligns cX12_aligns 10 (some .boolean) (5 + n_) (129 + n_ * 29) [.ref o0, .int p1, .int p2, .int p3, .int p4, .int p5] L f (fun (r : Int32) (f9 : Nat → va_E) => GI (okc cI cL cZ cR cG cH L kd) kd L f9 ∧ (0 ≤ r.toInt ∧ r.toInt ≤ 1) ∧ (∀ b, kd b ≠ 579 → kd b ≠ 581 → kd b ≠ 583 → kd b ≠ 585 → kd b ≠ 587 → kd b ≠ 588 → f9 b = f b)) := by
  obtain ⟨dC, dI⟩ := D
  induction n_ generalizing f o0 mo0 ko0 p1 bp1 p2 bp2 p3 bp3 p4 bp4 p5 hpreo0 w23 w35 hxrel with
  | zero => exfalso; omega
  | succ n_ ih_ =>
    have ih_rec := ih_
    clear ih_
    refine Met.ofW (cc := cX12_aligns) (maxL := 10) (ret := (some .boolean)) (by decide) rfl ?_
    intro p e s m args below meth c s₁ B hml hv
    obtain ⟨rfl, hP, hK, hD0, hN, hZ⟩ := hv
    have hx := B.exec
    have hb := B.bytes
    have hr := B.returns
    have hU : ∀ w ∈ wsU, w.before _ s = true := fun w h => atoms_spec (ws := wU yX12_aligns cX12_aligns 10 (some .boolean)) B.pre w (List.mem_cons_of_mem _ h)
    have hown : s.vm.findClass RX12 = some m.cls := findClass_of_methodNamed B.named
    have hlocks := B.notSynchronized
    have hD := pl_in hD0
    have hS : va_S (fun q => q ∈ L) s.heap s.heap [] := va_S.rf
    have hl := lv_entry ([.ref o0, .int p1, .int p2, .int p3, .int p4, .int p5]) (n := 10) (Nat.le_of_ble_eq_true rfl)
    rw [lg_entry_eq]
    generalize (lg_sl ([.ref o0, .int p1, .int p2, .int p3, .int p4, .int p5]) ++ List.replicate (10 - (lg_sl ([.ref o0, .int p1, .int p2, .int p3, .int p4, .int p5])).length) Slot.unset).toArray = ls at hl ⊢
    have hl : lv_has ls 10 [(0, .ref o0), (1, .int p1), (2, .int p2), (3, .int p3), (4, .int p4), (5, .int p5)] := hl
    have bp5 : ((-2147483648) ≤ p5.toInt ∧ p5.toInt ≤ 2147483647) := ⟨i32_lo _, i32_hi _⟩
    have hfr0 : ∀ b, kd b ≠ 579 → kd b ≠ 581 → kd b ≠ 583 → kd b ≠ 585 → kd b ≠ 587 → kd b ≠ 588 → f b = f b := fun _ _ _ _ _ _ _ => rfl
    obtain ⟨a_2, a_3, a_4, v_5, a_6, v_7, v_8, v_9, v_10, v_11, v_12, v_13, v_14, v_15, v_16, a_17, a_18, a_19, a_20, a_21, a_22, a_23, a_24, v_25, v_26, v_27, v_28, v_29, a_30, v_31, a_32, a_33, v_34, v_35, a_36, v_37, a_38, a_39, v_40, v_41, a_42, a_43, a_44, v_45, a_46, a_47, a_48, a_49, a_50, a_51, a_52, a_53, a_54, v_55, v_56, a_57, hfo_1, ⟨ma_2, ka_2⟩, ⟨ma_3, ka_3⟩, ⟨ma_4, ka_4⟩, bv_5, ⟨ma_6, ka_6⟩, bv_7, bv_8, bv_13, bv_14, bv_15, ⟨ma_17, ka_17⟩, ⟨ma_18, ka_18⟩, ⟨ma_19, ka_19⟩, ⟨ma_20, ka_20⟩, ⟨ma_21, ka_21⟩, ⟨ma_22, ka_22⟩, ⟨ma_23, ka_23⟩, ⟨ma_24, ka_24⟩, bv_25, bv_27, bv_29, ⟨ma_30, ka_30⟩, bv_31, ⟨ma_32, ka_32⟩, ⟨ma_33, ka_33⟩, bv_34, ⟨ma_36, ka_36⟩, bv_37, ⟨ma_38, ka_38⟩, ⟨ma_39, ka_39⟩, bv_40, ⟨ma_42, ka_42⟩, ⟨ma_43, ka_43⟩, ⟨ma_44, ka_44⟩, bv_45, ⟨ma_46, ka_46⟩, ⟨ma_47, ka_47⟩, ⟨ma_48, ka_48⟩, ⟨ma_49, ka_49⟩, ⟨ma_50, ka_50⟩, ⟨ma_51, ka_51⟩, ⟨ma_52, ka_52⟩, ⟨ma_53, ka_53⟩, ⟨ma_54, ka_54⟩, bv_55, ⟨ma_57, ka_57⟩⟩ := un_12 (hG _ mo0) ko0
    have bv_9 : ((-2147483648) ≤ v_9.toInt ∧ v_9.toInt ≤ 2147483647) := ⟨i32_lo _, i32_hi _⟩
    have bv_10 : ((-2147483648) ≤ v_10.toInt ∧ v_10.toInt ≤ 2147483647) := ⟨i32_lo _, i32_hi _⟩
    have bv_11 : ((-2147483648) ≤ v_11.toInt ∧ v_11.toInt ≤ 2147483647) := ⟨i32_lo _, i32_hi _⟩
    have bv_12 : ((-2147483648) ≤ v_12.toInt ∧ v_12.toInt ≤ 2147483647) := ⟨i32_lo _, i32_hi _⟩
    have bv_16 : ((-2147483648) ≤ v_16.toInt ∧ v_16.toInt ≤ 2147483647) := ⟨i32_lo _, i32_hi _⟩
    have bv_26 : ((-2147483648) ≤ v_26.toInt ∧ v_26.toInt ≤ 2147483647) := ⟨i32_lo _, i32_hi _⟩
    have bv_28 : ((-2147483648) ≤ v_28.toInt ∧ v_28.toInt ≤ 2147483647) := ⟨i32_lo _, i32_hi _⟩
    have bv_35 : ((-2147483648) ≤ v_35.toInt ∧ v_35.toInt ≤ 2147483647) := ⟨i32_lo _, i32_hi _⟩
    have bv_41 : ((-2147483648) ≤ v_41.toInt ∧ v_41.toInt ≤ 2147483647) := ⟨i32_lo _, i32_hi _⟩
    have bv_56 : ((-2147483648) ≤ v_56.toInt ∧ v_56.toInt ≤ 2147483647) := ⟨i32_lo _, i32_hi _⟩
    have hpo0 := hpreo0 v_25 v_37 (by rw [hfo_1]; rfl) (by rw [hfo_1]; rfl)
    refine lv_iload_n hx hb dX12_aligns_0 rfl (lv_at hl 1 rfl) ?_
    refine lv_aload_n hx hb dX12_aligns_1 rfl (lv_at hl 0 rfl) ?_
    refine tk_getP (D := (dC, dI)) (ci := 12) (v := .int v_25) (C := RX12) (T := TX12) (N := 56) hx hb hU inlX12 hown hK hP mo0 hfo_1 rfl 23 (by decide) (hU _ wd_867) (fun _ h9 => h9) rfl dX12_aligns_2 ?_
    refine lv_icmp_ne (tgt := 29) hx hb dX12_aligns_5 (by decide) (fun c_58 => ?_) (fun c_58 => ?_)
    · skip
      rw [← Int32.toInt_inj] at c_58
      refine lv_iconst (v := 0) hx hb dX12_aligns_29 (by decide) ?_
      refine lv_istore (lv' := [(6, .int 0), (0, .ref o0), (1, .int p1), (2, .int p2), (3, .int p3), (4, .int p4), (5, .int p5)]) hx hb dX12_aligns_30 hl (by decide) rfl (fun ls hl => ?_)
      have hloop_64 : ∀ (n : Nat), ∀ (y_65 : Int32), (0 ≤ y_65.toInt ∧ y_65.toInt ≤ 20) → ∀ (f_67 : Nat → va_E), GI (okc cI cL cZ cR cG cH L kd) kd L f_67 → ∀ (H : Heap) (locs : List Loc), va_P (dC, dI) vwCl (va_pl L f_67) H → va_S (fun q => q ∈ L) s.heap H locs → va_D (fun q => q ∈ L) (va_pl L f_67) → (∀ b, kd b ≠ 579 → kd b ≠ 581 → kd b ≠ 583 → kd b ≠ 585 → kd b ≠ 587 → kd b ≠ 588 → f_67 b = f b) → (f_67 o0 = .inr (12, [.ref a_2, .ref a_3, .ref a_4, .int v_5, .ref a_6, .int v_7, .int v_8, .int v_9, .int v_10, .int v_11, .int v_12, .int v_13, .int v_14, .int v_15, .int v_16, .ref a_17, .ref a_18, .ref a_19, .ref a_20, .ref a_21, .ref a_22, .ref a_23, .ref a_24, .int v_25, .int v_26, .int v_27, .int v_28, .int v_29, .ref a_30, .int v_31, .ref a_32, .ref a_33, .int v_34, .int v_35, .ref a_36, .int v_37, .ref a_38, .ref a_39, .int v_40, .int v_41, .ref a_42, .ref a_43, .ref a_44, .int v_45, .ref a_46, .ref a_47, .ref a_48, .ref a_49, .ref a_50, .ref a_51, .ref a_52, .ref a_53, .ref a_54, .int v_55, .int v_56, .ref a_57])) → 20 - y_65.toInt < (n : Int) → ∀ (ls : Array Slot), lv_has ls 10 [(6, .int y_65), (0, .ref o0), (1, .int p1), (2, .int p2), (3, .int p3), (4, .int p4), (5, .int p5)] → W p l e (headSpec (wU yX12_aligns cX12_aligns 10 (some .boolean)) { frames := 5 + (n_ + 1), cells := 0, slots := 0, locals := 129 + (n_ + 1) * 29 }).room s m [.ref o0, .int p1, .int p2, .int p3, .int p4, .int p5].toArray below meth c H locs 0 0 (MQ below (va_Qi (fun (r : Int32) (f9 : Nat → va_E) => GI (okc cI cL cZ cR cG cH L kd) kd L f9 ∧ (0 ≤ r.toInt ∧ r.toInt ≤ 1) ∧ (∀ b, kd b ≠ 579 → kd b ≠ 581 → kd b ≠ 583 → kd b ≠ 585 → kd b ≠ 587 → kd b ≠ 588 → f9 b = f b)) (qP (dC, dI) cI cL cZ cR cG cH L) (fun q => q ∈ L)) [.ref o0, .int p1, .int p2, .int p3, .int p4, .int p5].toArray s 0 0 (fun q => q ∈ L)) (F0 m 32 ls []) := by
        intro n
        induction n with
        | zero => intro y_65 by_65 f_67 hG H locs hP hS hD hfr0 hfo_68 hmuhloop_64 ls hl; exfalso; omega
        | succ n ih_hloop_64 =>
          intro y_65 by_65 f_67 hG H locs hP hS hD hfr0 hfo_68 hmuhloop_64 ls hl
          refine lv_iload hx hb dX12_aligns_32 (lv_at hl 0 rfl) ?_
          refine lv_aload_n hx hb dX12_aligns_34 rfl (lv_at hl 1 rfl) ?_
          refine tk_getP (D := (dC, dI)) (ci := 12) (v := .ref a_2) (C := RX12) (T := TX12) (N := 56) hx hb hU inlX12 hown hK hP mo0 hfo_68 rfl 0 (by decide) (hU _ wd_169) (fun _ h9 => h9) rfl dX12_aligns_35 ?_
          refine lv_bipush (v := 16) hx hb dX12_aligns_38 (by decide) ?_
          obtain ⟨g_70, hfo_69, hbg_70⟩ := un_575 (hG _ ma_2) ka_2
          refine tk_ildP hx hb hK hP 0 ma_2 hfo_69 rfl (vp_in_nI (n := 16) (by decide) (by decide)) dX12_aligns_40 ?_
          refine lv_topi (fun x_71 ex_71 => ?_)
          have bx_71 : (0 ≤ x_71.toInt ∧ x_71.toInt ≤ 20) := by rw [ex_71]; exact hbg_70.2.1 _ (by decide) (by decide) (by decide)
          refine lv_icmp_ge (tgt := 229) hx hb dX12_aligns_41 (by decide) (fun c_72 => ?_) (fun c_72 => ?_)
          · skip
            rw [Int32.le_iff_toInt_le] at c_72
            refine lv_iconst (v := 0) hx hb dX12_aligns_229 (by decide) ?_
            exact W.zret (v := 0) (ty := .boolean) hx hb hr rfl (fun t ht hW => ⟨⟨0, f_67, rfl, ⟨hG, (by decide), hfr0⟩, by rw [ht]; exact hP, va_K.moved hW.alike hK, pl_in hD⟩, hS.F ht⟩) hS.2.2 dX12_aligns_230
          · skip
            rw [Int32.le_iff_toInt_le] at c_72
            refine lv_aload_n hx hb dX12_aligns_44 rfl (lv_at hl 1 rfl) ?_
            refine tk_getP (D := (dC, dI)) (ci := 12) (v := .ref a_2) (C := RX12) (T := TX12) (N := 56) hx hb hU inlX12 hown hK hP mo0 hfo_68 rfl 0 (by decide) (hU _ wd_169) (fun _ h9 => h9) rfl dX12_aligns_45 ?_
            refine lv_bipush (v := 20) hx hb dX12_aligns_48 (by decide) ?_
            refine lv_iload hx hb dX12_aligns_50 (lv_at hl 0 rfl) ?_
            refine lv_iadd hx hb dX12_aligns_52 ?_
            refine lv_topi (fun x_73 ex_73 => ?_)
            have hx_73 : x_73.toInt = 20 + y_65.toInt := by rw [ex_73, ad_I (by rw [ti_20]; omega) (by rw [ti_20]; omega), ti_20]
            have bx_73 : (20 ≤ x_73.toInt ∧ x_73.toInt ≤ 39) := by constructor <;> omega
            refine tk_ildP hx hb hK hP 0 ma_2 hfo_69 rfl (vp_in_iff.mpr (by constructor <;> omega)) dX12_aligns_53 ?_
            refine lv_topi (fun x_74 ex_74 => ?_)
            have bx_74 : (0 ≤ x_74.toInt ∧ x_74.toInt ≤ 80) := by have hc9 := cl_I (i := x_73) (by omega); rw [ex_74]; exact hbg_70.2.2.2.2.2.1 _ (by omega) (by omega) (by omega)
            refine lv_bipush (v := 9) hx hb dX12_aligns_54 (by decide) ?_
            refine lv_idiv hx hb dX12_aligns_56 (by decide) ?_
            refine lv_topi (fun x_75 ex_75 => ?_)
            have hx_75 : x_75.toInt = x_74.toInt / 9 := by rw [ex_75, dv_I (by omega) (by rw [ti_9]; omega), ti_9]
            have bx_75 : (0 ≤ x_75.toInt ∧ x_75.toInt ≤ 8) := by constructor <;> omega
            refine lv_istore (lv' := [(7, .int x_75), (6, .int y_65), (0, .ref o0), (1, .int p1), (2, .int p2), (3, .int p3), (4, .int p4), (5, .int p5)]) hx hb dX12_aligns_57 hl (by decide) rfl (fun ls hl => ?_)
            refine lv_aload_n hx hb dX12_aligns_59 rfl (lv_at hl 2 rfl) ?_
            refine tk_getP (D := (dC, dI)) (ci := 12) (v := .ref a_2) (C := RX12) (T := TX12) (N := 56) hx hb hU inlX12 hown hK hP mo0 hfo_68 rfl 0 (by decide) (hU _ wd_169) (fun _ h9 => h9) rfl dX12_aligns_60 ?_
            refine lv_bipush (v := 20) hx hb dX12_aligns_63 (by decide) ?_
            refine lv_iload hx hb dX12_aligns_65 (lv_at hl 1 rfl) ?_
            refine lv_iadd hx hb dX12_aligns_67 ?_
            refine lv_topi (fun x_76 ex_76 => ?_)
            have hx_76 : x_76.toInt = 20 + y_65.toInt := by rw [ex_76, ad_I (by rw [ti_20]; omega) (by rw [ti_20]; omega), ti_20]
            have bx_76 : (20 ≤ x_76.toInt ∧ x_76.toInt ≤ 39) := by constructor <;> omega
            refine tk_ildP hx hb hK hP 0 ma_2 hfo_69 rfl (vp_in_iff.mpr (by constructor <;> omega)) dX12_aligns_68 ?_
            refine lv_topi (fun x_77 ex_77 => ?_)
            have bx_77 : (0 ≤ x_77.toInt ∧ x_77.toInt ≤ 80) := by have hc9 := cl_I (i := x_76) (by omega); rw [ex_77]; exact hbg_70.2.2.2.2.2.1 _ (by omega) (by omega) (by omega)
            refine lv_bipush (v := 9) hx hb dX12_aligns_69 (by decide) ?_
            refine lv_irem hx hb dX12_aligns_71 (by decide) ?_
            refine lv_topi (fun x_78 ex_78 => ?_)
            have hx_78 : x_78.toInt = x_77.toInt % 9 := by rw [ex_78, rm_I (by omega) (by rw [ti_9]; omega), ti_9]
            have bx_78 : (0 ≤ x_78.toInt ∧ x_78.toInt ≤ 8) := by constructor <;> omega
            refine lv_istore (lv' := [(8, .int x_78), (7, .int x_75), (6, .int y_65), (0, .ref o0), (1, .int p1), (2, .int p2), (3, .int p3), (4, .int p4), (5, .int p5)]) hx hb dX12_aligns_72 hl (by decide) rfl (fun ls hl => ?_)
            refine lv_iload hx hb dX12_aligns_74 (lv_at hl 1 rfl) ?_
            have hcut_80 : ∀ (y_79 : Int32), (0 ≤ y_79.toInt ∧ y_79.toInt ≤ 1) → (y_79.toInt = 1 ∨ (y_79.toInt = 0 ∧ x_75.toInt ≠ 0 ∧ x_78.toInt ≠ 0)) → ∀ (ls : Array Slot), lv_has ls 10 [(8, .int x_78), (7, .int x_75), (6, .int y_65), (0, .ref o0), (1, .int p1), (2, .int p2), (3, .int p3), (4, .int p4), (5, .int p5)] → W p l e (headSpec (wU yX12_aligns cX12_aligns 10 (some .boolean)) { frames := 5 + (n_ + 1), cells := 0, slots := 0, locals := 129 + (n_ + 1) * 29 }).room s m [.ref o0, .int p1, .int p2, .int p3, .int p4, .int p5].toArray below meth c H locs 0 0 (MQ below (va_Qi (fun (r : Int32) (f9 : Nat → va_E) => GI (okc cI cL cZ cR cG cH L kd) kd L f9 ∧ (0 ≤ r.toInt ∧ r.toInt ≤ 1) ∧ (∀ b, kd b ≠ 579 → kd b ≠ 581 → kd b ≠ 583 → kd b ≠ 585 → kd b ≠ 587 → kd b ≠ 588 → f9 b = f b)) (qP (dC, dI) cI cL cZ cR cG cH L) (fun q => q ∈ L)) [.ref o0, .int p1, .int p2, .int p3, .int p4, .int p5].toArray s 0 0 (fun q => q ∈ L)) (F0 m 89 ls [.int y_79]) := by
              intro y_79 by_79 hjhcut_80_0 ls hl
              refine lv_istore (lv' := [(9, .int y_79), (8, .int x_78), (7, .int x_75), (6, .int y_65), (0, .ref o0), (1, .int p1), (2, .int p2), (3, .int p3), (4, .int p4), (5, .int p5)]) hx hb dX12_aligns_89 hl (by decide) rfl (fun ls hl => ?_)
              refine lv_iload hx hb dX12_aligns_91 (lv_at hl 0 rfl) ?_
              refine lv_if_eq (tgt := 100) hx hb dX12_aligns_93 (by decide) (fun c_81 => ?_) (fun c_81 => ?_)
              · skip
                rw [← Int32.toInt_inj, ti_0] at c_81
                refine lv_iload hx hb dX12_aligns_100 (lv_at hl 2 rfl) ?_
                refine lv_if_eq (tgt := 124) hx hb dX12_aligns_102 (by decide) (fun c_82 => ?_) (fun c_82 => ?_)
                · skip
                  rw [← Int32.toInt_inj, ti_0] at c_82
                  refine lv_iload hx hb dX12_aligns_124 (lv_at hl 1 rfl) ?_
                  refine lv_if_eq (tgt := 151) hx hb dX12_aligns_126 (by decide) (fun c_83 => ?_) (fun c_83 => ?_)
                  · skip
                    rw [← Int32.toInt_inj, ti_0] at c_83
                    refine lv_aload_n hx hb dX12_aligns_151 rfl (lv_at hl 4 rfl) ?_
                    refine lv_iload hx hb dX12_aligns_152 (lv_at hl 8 rfl) ?_
                    refine lv_aload_n hx hb dX12_aligns_154 rfl (lv_at hl 4 rfl) ?_
                    refine tk_getP (D := (dC, dI)) (ci := 12) (v := .ref a_2) (C := RX12) (T := TX12) (N := 56) hx hb hU inlX12 hown hK hP mo0 hfo_68 rfl 0 (by decide) (hU _ wd_169) (fun _ h9 => h9) rfl dX12_aligns_155 ?_
                    refine lv_bipush (v := 20) hx hb dX12_aligns_158 (by decide) ?_
                    refine lv_iload hx hb dX12_aligns_160 (lv_at hl 3 rfl) ?_
                    refine lv_iadd hx hb dX12_aligns_162 ?_
                    refine lv_topi (fun x_84 ex_84 => ?_)
                    have hx_84 : x_84.toInt = 20 + y_65.toInt := by rw [ex_84, ad_I (by rw [ti_20]; omega) (by rw [ti_20]; omega), ti_20]
                    have bx_84 : (20 ≤ x_84.toInt ∧ x_84.toInt ≤ 39) := by constructor <;> omega
                    refine tk_ildP hx hb hK hP 0 ma_2 hfo_69 rfl (vp_in_iff.mpr (by constructor <;> omega)) dX12_aligns_163 ?_
                    refine lv_topi (fun x_85 ex_85 => ?_)
                    have bx_85 : (0 ≤ x_85.toInt ∧ x_85.toInt ≤ 80) := by have hc9 := cl_I (i := x_84) (by omega); rw [ex_85]; exact hbg_70.2.2.2.2.2.1 _ (by omega) (by omega) (by omega)
                    refine lv_iload hx hb dX12_aligns_164 (lv_at hl 9 rfl) ?_
                    refine tk_ViP (As := [.int p4, .int x_85, .int p5]) (rest := []) (n := 3) hx hb hml hown hU hN hZ (s_X12_reads_k12 l (dC, dI) cI cL cZ cR cG cH Z kd L f_67 hG o0 mo0 ko0 p4 (by constructor <;> omega) x_85 p5) wd_950 wd_951 wd_952 wd_5 wd_953 (by decide +kernel) ⟨(show 4 + 1 ≤ 5 + (n_ + 1) by omega), (show 8 + (5 + 11) + 105 ≤ 129 + (n_ + 1) * 29 by omega)⟩ hK hP hD hS mo0 hfo_68 12 rfl rfl rfl hl.1 rfl (Nat.le_of_ble_eq_true rfl) dX12_aligns_166 ⟨Nat.le_of_ble_eq_true rfl, Nat.le_of_ble_eq_true rfl⟩ (fun x_86 f_87 H locs hw hP hD hS => ?_)
                    obtain ⟨hG, bx_86, hkc_88⟩ := hw
                    have hfo_90 : f_87 o0 = .inr (12, [.ref a_2, .ref a_3, .ref a_4, .int v_5, .ref a_6, .int v_7, .int v_8, .int v_9, .int v_10, .int v_11, .int v_12, .int v_13, .int v_14, .int v_15, .int v_16, .ref a_17, .ref a_18, .ref a_19, .ref a_20, .ref a_21, .ref a_22, .ref a_23, .ref a_24, .int v_25, .int v_26, .int v_27, .int v_28, .int v_29, .ref a_30, .int v_31, .ref a_32, .ref a_33, .int v_34, .int v_35, .ref a_36, .int v_37, .ref a_38, .ref a_39, .int v_40, .int v_41, .ref a_42, .ref a_43, .ref a_44, .int v_45, .ref a_46, .ref a_47, .ref a_48, .ref a_49, .ref a_50, .ref a_51, .ref a_52, .ref a_53, .ref a_54, .int v_55, .int v_56, .ref a_57]) := by rw [hkc_88 o0 (by rw [ko0]; decide) (by rw [ko0]; decide) (by rw [ko0]; decide) (by rw [ko0]; decide) (by rw [ko0]; decide) (by rw [ko0]; decide)]; exact hfo_68
                    have hfo_91 : f_87 a_2 = .inl (cI, 1560, .inl g_70) := by rw [hkc_88 a_2 (by rw [ka_2]; decide) (by rw [ka_2]; decide) (by rw [ka_2]; decide) (by rw [ka_2]; decide) (by rw [ka_2]; decide) (by rw [ka_2]; decide)]; exact hfo_69
                    have hfr0 : ∀ b, kd b ≠ 579 → kd b ≠ 581 → kd b ≠ 583 → kd b ≠ 585 → kd b ≠ 587 → kd b ≠ 588 → f_87 b = f b := fun b q579 q581 q583 q585 q587 q588 => (hkc_88 b q579 q581 q583 q585 q587 q588).trans (hfr0 b q579 q581 q583 q585 q587 q588)
                    refine lv_if_eq (tgt := 223) hx hb dX12_aligns_169 (by decide) (fun c_92 => ?_) (fun c_92 => ?_)
                    · skip
                      rw [← Int32.toInt_inj, ti_0] at c_92
                      obtain ⟨x_93, ex_93⟩ : ∃ y : Int32, y_65 + 1 = y := ⟨_, rfl⟩
                      have hx_93 : x_93.toInt = y_65.toInt + 1 := by rw [← ex_93, ad_I (by rw [ti_1]; omega) (by rw [ti_1]; omega), ti_1]
                      have bx_93 : (1 ≤ x_93.toInt ∧ x_93.toInt ≤ 20) := by constructor <;> omega
                      refine lv_iinc (v := x_93) (lv' := [(6, .int x_93), (9, .int y_79), (8, .int x_78), (7, .int x_75), (0, .ref o0), (1, .int p1), (2, .int p2), (3, .int p3), (4, .int p4), (5, .int p5)]) hx hb dX12_aligns_223 hl (k := 3) rfl ex_93 (by decide) rfl (fun ls hl => ?_)
                      refine lv_goto (tgt := 32) hx hb dX12_aligns_226 (by decide) ?_
                      exact ih_hloop_64 x_93 (by constructor <;> omega) f_87 hG _ _ hP hS hD hfr0 hfo_90 (by omega) ls (lv_sub hl [0, 4, 5, 6, 7, 8, 9] rfl)
                    · skip
                      rw [← Int32.toInt_inj, ti_0] at c_92
                      refine lv_aload_n hx hb dX12_aligns_172 rfl (lv_at hl 4 rfl) ?_
                      refine lv_iload hx hb dX12_aligns_173 (lv_at hl 2 rfl) ?_
                      refine lv_if_ne (tgt := 182) hx hb dX12_aligns_175 (by decide) (fun c_94 => ?_) (fun c_94 => ?_)
                      · skip
                        rw [← Int32.toInt_inj, ti_0] at c_94
                        exfalso
                        omega
                      · skip
                        rw [← Int32.toInt_inj, ti_0] at c_94
                        refine lv_iload_n hx hb dX12_aligns_178 rfl (lv_at hl 5 rfl) ?_
                        refine lv_goto (tgt := 185) hx hb dX12_aligns_179 (by decide) ?_
                        refine lv_iload hx hb dX12_aligns_185 (lv_at hl 1 rfl) ?_
                        refine lv_if_ne (tgt := 194) hx hb dX12_aligns_187 (by decide) (fun c_95 => ?_) (fun c_95 => ?_)
                        · skip
                          rw [← Int32.toInt_inj, ti_0] at c_95
                          exfalso
                          omega
                        · skip
                          rw [← Int32.toInt_inj, ti_0] at c_95
                          refine lv_iload_n hx hb dX12_aligns_190 rfl (lv_at hl 6 rfl) ?_
                          refine lv_goto (tgt := 197) hx hb dX12_aligns_191 (by decide) ?_
                          refine lv_iload hx hb dX12_aligns_197 (lv_at hl 0 rfl) ?_
                          refine lv_if_eq (tgt := 208) hx hb dX12_aligns_199 (by decide) (fun c_96 => ?_) (fun c_96 => ?_)
                          · skip
                            rw [← Int32.toInt_inj, ti_0] at c_96
                            refine lv_iload_n hx hb dX12_aligns_208 rfl (lv_at hl 7 rfl) ?_
                            refine lv_iload hx hb dX12_aligns_209 (lv_at hl 8 rfl) ?_
                            refine lv_iconst (v := 1) hx hb dX12_aligns_211 (by decide) ?_
                            refine lv_iadd hx hb dX12_aligns_212 ?_
                            refine lv_topi (fun x_97 ex_97 => ?_)
                            have hx_97 : x_97.toInt = p4.toInt + 1 := by rw [ex_97, ad_I (by rw [ti_1]; omega) (by rw [ti_1]; omega), ti_1]
                            have bx_97 : (1 ≤ x_97.toInt ∧ x_97.toInt ≤ 14) := by constructor <;> omega
                            have hclc_98 : (1 ≤ x_97.toInt ∧ x_97.toInt ≤ 13) := by constructor <;> omega
                            refine lv_iload hx hb dX12_aligns_213 (lv_at hl 9 rfl) ?_
                            refine tk_ViP (As := [.int p1, .int p2, .int p3, .int x_97, .int p5]) (rest := []) (n := 5) hx hb hml hown hU hN hZ (ih_rec f_87 hG o0 mo0 ko0 p1 (by constructor <;> omega) p2 (by constructor <;> omega) p3 (by constructor <;> omega) x_97 (by constructor <;> omega) p5 (by intro w23 w35 e23 e35; rw [hfo_90] at e23 e35; obtain rfl := Option.some.inj e23; obtain rfl := Option.some.inj e35; omega) (by omega) (by omega)) wd_1054 wd_1055 wd_1056 wd_5 wd_1057 (by decide +kernel) ⟨(show (5 + n_) + 1 ≤ 5 + (n_ + 1) by omega), (show 8 + (10 + 11) + (129 + n_ * 29) ≤ 129 + (n_ + 1) * 29 by omega)⟩ hK hP hD hS mo0 hfo_90 12 rfl rfl rfl hl.1 rfl (Nat.le_of_ble_eq_true rfl) dX12_aligns_215 ⟨Nat.le_of_ble_eq_true rfl, Nat.le_of_ble_eq_true rfl⟩ (fun x_99 f_100 H locs hw hP hD hS => ?_)
                            obtain ⟨hG, bx_99, hkc_101⟩ := hw
                            have hfo_103 : f_100 o0 = .inr (12, [.ref a_2, .ref a_3, .ref a_4, .int v_5, .ref a_6, .int v_7, .int v_8, .int v_9, .int v_10, .int v_11, .int v_12, .int v_13, .int v_14, .int v_15, .int v_16, .ref a_17, .ref a_18, .ref a_19, .ref a_20, .ref a_21, .ref a_22, .ref a_23, .ref a_24, .int v_25, .int v_26, .int v_27, .int v_28, .int v_29, .ref a_30, .int v_31, .ref a_32, .ref a_33, .int v_34, .int v_35, .ref a_36, .int v_37, .ref a_38, .ref a_39, .int v_40, .int v_41, .ref a_42, .ref a_43, .ref a_44, .int v_45, .ref a_46, .ref a_47, .ref a_48, .ref a_49, .ref a_50, .ref a_51, .ref a_52, .ref a_53, .ref a_54, .int v_55, .int v_56, .ref a_57]) := by rw [hkc_101 o0 (by rw [ko0]; decide) (by rw [ko0]; decide) (by rw [ko0]; decide) (by rw [ko0]; decide) (by rw [ko0]; decide) (by rw [ko0]; decide)]; exact hfo_90
                            have hfo_104 : f_100 a_2 = .inl (cI, 1560, .inl g_70) := by rw [hkc_101 a_2 (by rw [ka_2]; decide) (by rw [ka_2]; decide) (by rw [ka_2]; decide) (by rw [ka_2]; decide) (by rw [ka_2]; decide) (by rw [ka_2]; decide)]; exact hfo_91
                            have hfr0 : ∀ b, kd b ≠ 579 → kd b ≠ 581 → kd b ≠ 583 → kd b ≠ 585 → kd b ≠ 587 → kd b ≠ 588 → f_100 b = f b := fun b q579 q581 q583 q585 q587 q588 => (hkc_101 b q579 q581 q583 q585 q587 q588).trans (hfr0 b q579 q581 q583 q585 q587 q588)
                            refine lv_if_eq (tgt := 223) hx hb dX12_aligns_218 (by decide) (fun c_105 => ?_) (fun c_105 => ?_)
                            · skip
                              rw [← Int32.toInt_inj, ti_0] at c_105
                              obtain ⟨x_106, ex_106⟩ : ∃ y : Int32, y_65 + 1 = y := ⟨_, rfl⟩
                              have hx_106 : x_106.toInt = y_65.toInt + 1 := by rw [← ex_106, ad_I (by rw [ti_1]; omega) (by rw [ti_1]; omega), ti_1]
                              have bx_106 : (1 ≤ x_106.toInt ∧ x_106.toInt ≤ 20) := by constructor <;> omega
                              refine lv_iinc (v := x_106) (lv' := [(6, .int x_106), (9, .int y_79), (8, .int x_78), (7, .int x_75), (0, .ref o0), (1, .int p1), (2, .int p2), (3, .int p3), (4, .int p4), (5, .int p5)]) hx hb dX12_aligns_223 hl (k := 3) rfl ex_106 (by decide) rfl (fun ls hl => ?_)
                              refine lv_goto (tgt := 32) hx hb dX12_aligns_226 (by decide) ?_
                              exact ih_hloop_64 x_106 (by constructor <;> omega) f_100 hG _ _ hP hS hD hfr0 hfo_103 (by omega) ls (lv_sub hl [0, 4, 5, 6, 7, 8, 9] rfl)
                            · skip
                              rw [← Int32.toInt_inj, ti_0] at c_105
                              refine lv_iconst (v := 1) hx hb dX12_aligns_221 (by decide) ?_
                              exact W.zret (v := 1) (ty := .boolean) hx hb hr rfl (fun t ht hW => ⟨⟨1, f_100, rfl, ⟨hG, (by decide), hfr0⟩, by rw [ht]; exact hP, va_K.moved hW.alike hK, pl_in hD⟩, hS.F ht⟩) hS.2.2 dX12_aligns_222
                          · skip
                            rw [← Int32.toInt_inj, ti_0] at c_96
                            exfalso
                            omega
                  · skip
                    rw [← Int32.toInt_inj, ti_0] at c_83
                    refine lv_iload_n hx hb dX12_aligns_129 rfl (lv_at hl 6 rfl) ?_
                    refine lv_aload_n hx hb dX12_aligns_130 rfl (lv_at hl 4 rfl) ?_
                    refine tk_getP (D := (dC, dI)) (ci := 12) (v := .int v_37) (C := RX12) (T := TX12) (N := 56) hx hb hU inlX12 hown hK hP mo0 hfo_68 rfl 35 (by decide) (hU _ wd_1049) (fun _ h9 => h9) rfl dX12_aligns_131 ?_
                    refine lv_icmp_eq (tgt := 223) hx hb dX12_aligns_134 (by decide) (fun c_107 => ?_) (fun c_107 => ?_)
                    · skip
                      rw [← Int32.toInt_inj] at c_107
                      obtain ⟨x_108, ex_108⟩ : ∃ y : Int32, y_65 + 1 = y := ⟨_, rfl⟩
                      have hx_108 : x_108.toInt = y_65.toInt + 1 := by rw [← ex_108, ad_I (by rw [ti_1]; omega) (by rw [ti_1]; omega), ti_1]
                      have bx_108 : (1 ≤ x_108.toInt ∧ x_108.toInt ≤ 20) := by constructor <;> omega
                      refine lv_iinc (v := x_108) (lv' := [(6, .int x_108), (9, .int y_79), (8, .int x_78), (7, .int x_75), (0, .ref o0), (1, .int p1), (2, .int p2), (3, .int p3), (4, .int p4), (5, .int p5)]) hx hb dX12_aligns_223 hl (k := 3) rfl ex_108 (by decide) rfl (fun ls hl => ?_)
                      refine lv_goto (tgt := 32) hx hb dX12_aligns_226 (by decide) ?_
                      exact ih_hloop_64 x_108 (by constructor <;> omega) f_67 hG _ _ hP hS hD hfr0 hfo_68 (by omega) ls (lv_sub hl [0, 4, 5, 6, 7, 8, 9] rfl)
                    · skip
                      rw [← Int32.toInt_inj] at c_107
                      have hclc_109 : (0 ≤ p2.toInt ∧ p2.toInt ≤ 7) := by constructor <;> omega
                      refine lv_aload_n hx hb dX12_aligns_137 rfl (lv_at hl 4 rfl) ?_
                      refine tk_getP (D := (dC, dI)) (ci := 12) (v := .ref a_36) (C := RX12) (T := TX12) (N := 56) hx hb hU inlX12 hown hK hP mo0 hfo_68 rfl 34 (by decide) (hU _ wd_186) (fun _ h9 => h9) rfl dX12_aligns_138 ?_
                      refine lv_iload_n hx hb dX12_aligns_141 rfl (lv_at hl 6 rfl) ?_
                      obtain ⟨g_111, hfo_110, hbg_111⟩ := un_594 (hG _ ma_36) ka_36
                      refine tk_ildP hx hb hK hP 0 ma_36 hfo_110 rfl (vp_in_iff.mpr (by constructor <;> omega)) dX12_aligns_142 ?_
                      refine lv_topi (fun x_112 ex_112 => ?_)
                      have bx_112 : (0 ≤ x_112.toInt ∧ x_112.toInt ≤ 8) := by rw [ex_112]; exact hbg_111 _
                      refine lv_iload hx hb dX12_aligns_143 (lv_at hl 1 rfl) ?_
                      refine lv_icmp_eq (tgt := 151) hx hb dX12_aligns_145 (by decide) (fun c_113 => ?_) (fun c_113 => ?_)
                      · skip
                        rw [← Int32.toInt_inj] at c_113
                        refine lv_aload_n hx hb dX12_aligns_151 rfl (lv_at hl 4 rfl) ?_
                        refine lv_iload hx hb dX12_aligns_152 (lv_at hl 8 rfl) ?_
                        refine lv_aload_n hx hb dX12_aligns_154 rfl (lv_at hl 4 rfl) ?_
                        refine tk_getP (D := (dC, dI)) (ci := 12) (v := .ref a_2) (C := RX12) (T := TX12) (N := 56) hx hb hU inlX12 hown hK hP mo0 hfo_68 rfl 0 (by decide) (hU _ wd_169) (fun _ h9 => h9) rfl dX12_aligns_155 ?_
                        refine lv_bipush (v := 20) hx hb dX12_aligns_158 (by decide) ?_
                        refine lv_iload hx hb dX12_aligns_160 (lv_at hl 3 rfl) ?_
                        refine lv_iadd hx hb dX12_aligns_162 ?_
                        refine lv_topi (fun x_114 ex_114 => ?_)
                        have hx_114 : x_114.toInt = 20 + y_65.toInt := by rw [ex_114, ad_I (by rw [ti_20]; omega) (by rw [ti_20]; omega), ti_20]
                        have bx_114 : (20 ≤ x_114.toInt ∧ x_114.toInt ≤ 39) := by constructor <;> omega
                        refine tk_ildP hx hb hK hP 0 ma_2 hfo_69 rfl (vp_in_iff.mpr (by constructor <;> omega)) dX12_aligns_163 ?_
                        refine lv_topi (fun x_115 ex_115 => ?_)
                        have bx_115 : (0 ≤ x_115.toInt ∧ x_115.toInt ≤ 80) := by have hc9 := cl_I (i := x_114) (by omega); rw [ex_115]; exact hbg_70.2.2.2.2.2.1 _ (by omega) (by omega) (by omega)
                        refine lv_iload hx hb dX12_aligns_164 (lv_at hl 9 rfl) ?_
                        refine tk_ViP (As := [.int p4, .int x_115, .int p5]) (rest := []) (n := 3) hx hb hml hown hU hN hZ (s_X12_reads_k12 l (dC, dI) cI cL cZ cR cG cH Z kd L f_67 hG o0 mo0 ko0 p4 (by constructor <;> omega) x_115 p5) wd_950 wd_951 wd_952 wd_5 wd_953 (by decide +kernel) ⟨(show 4 + 1 ≤ 5 + (n_ + 1) by omega), (show 8 + (5 + 11) + 105 ≤ 129 + (n_ + 1) * 29 by omega)⟩ hK hP hD hS mo0 hfo_68 12 rfl rfl rfl hl.1 rfl (Nat.le_of_ble_eq_true rfl) dX12_aligns_166 ⟨Nat.le_of_ble_eq_true rfl, Nat.le_of_ble_eq_true rfl⟩ (fun x_116 f_117 H locs hw hP hD hS => ?_)
                        obtain ⟨hG, bx_116, hkc_118⟩ := hw
                        have hfo_120 : f_117 o0 = .inr (12, [.ref a_2, .ref a_3, .ref a_4, .int v_5, .ref a_6, .int v_7, .int v_8, .int v_9, .int v_10, .int v_11, .int v_12, .int v_13, .int v_14, .int v_15, .int v_16, .ref a_17, .ref a_18, .ref a_19, .ref a_20, .ref a_21, .ref a_22, .ref a_23, .ref a_24, .int v_25, .int v_26, .int v_27, .int v_28, .int v_29, .ref a_30, .int v_31, .ref a_32, .ref a_33, .int v_34, .int v_35, .ref a_36, .int v_37, .ref a_38, .ref a_39, .int v_40, .int v_41, .ref a_42, .ref a_43, .ref a_44, .int v_45, .ref a_46, .ref a_47, .ref a_48, .ref a_49, .ref a_50, .ref a_51, .ref a_52, .ref a_53, .ref a_54, .int v_55, .int v_56, .ref a_57]) := by rw [hkc_118 o0 (by rw [ko0]; decide) (by rw [ko0]; decide) (by rw [ko0]; decide) (by rw [ko0]; decide) (by rw [ko0]; decide) (by rw [ko0]; decide)]; exact hfo_68
                        have hfo_121 : f_117 a_2 = .inl (cI, 1560, .inl g_70) := by rw [hkc_118 a_2 (by rw [ka_2]; decide) (by rw [ka_2]; decide) (by rw [ka_2]; decide) (by rw [ka_2]; decide) (by rw [ka_2]; decide) (by rw [ka_2]; decide)]; exact hfo_69
                        have hfo_122 : f_117 a_36 = .inl (cI, 16, .inl g_111) := by rw [hkc_118 a_36 (by rw [ka_36]; decide) (by rw [ka_36]; decide) (by rw [ka_36]; decide) (by rw [ka_36]; decide) (by rw [ka_36]; decide) (by rw [ka_36]; decide)]; exact hfo_110
                        have hfr0 : ∀ b, kd b ≠ 579 → kd b ≠ 581 → kd b ≠ 583 → kd b ≠ 585 → kd b ≠ 587 → kd b ≠ 588 → f_117 b = f b := fun b q579 q581 q583 q585 q587 q588 => (hkc_118 b q579 q581 q583 q585 q587 q588).trans (hfr0 b q579 q581 q583 q585 q587 q588)
                        refine lv_if_eq (tgt := 223) hx hb dX12_aligns_169 (by decide) (fun c_123 => ?_) (fun c_123 => ?_)
                        · skip
                          rw [← Int32.toInt_inj, ti_0] at c_123
                          obtain ⟨x_124, ex_124⟩ : ∃ y : Int32, y_65 + 1 = y := ⟨_, rfl⟩
                          have hx_124 : x_124.toInt = y_65.toInt + 1 := by rw [← ex_124, ad_I (by rw [ti_1]; omega) (by rw [ti_1]; omega), ti_1]
                          have bx_124 : (1 ≤ x_124.toInt ∧ x_124.toInt ≤ 20) := by constructor <;> omega
                          refine lv_iinc (v := x_124) (lv' := [(6, .int x_124), (9, .int y_79), (8, .int x_78), (7, .int x_75), (0, .ref o0), (1, .int p1), (2, .int p2), (3, .int p3), (4, .int p4), (5, .int p5)]) hx hb dX12_aligns_223 hl (k := 3) rfl ex_124 (by decide) rfl (fun ls hl => ?_)
                          refine lv_goto (tgt := 32) hx hb dX12_aligns_226 (by decide) ?_
                          exact ih_hloop_64 x_124 (by constructor <;> omega) f_117 hG _ _ hP hS hD hfr0 hfo_120 (by omega) ls (lv_sub hl [0, 4, 5, 6, 7, 8, 9] rfl)
                        · skip
                          rw [← Int32.toInt_inj, ti_0] at c_123
                          refine lv_aload_n hx hb dX12_aligns_172 rfl (lv_at hl 4 rfl) ?_
                          refine lv_iload hx hb dX12_aligns_173 (lv_at hl 2 rfl) ?_
                          refine lv_if_ne (tgt := 182) hx hb dX12_aligns_175 (by decide) (fun c_125 => ?_) (fun c_125 => ?_)
                          · skip
                            rw [← Int32.toInt_inj, ti_0] at c_125
                            exfalso
                            omega
                          · skip
                            rw [← Int32.toInt_inj, ti_0] at c_125
                            refine lv_iload_n hx hb dX12_aligns_178 rfl (lv_at hl 5 rfl) ?_
                            refine lv_goto (tgt := 185) hx hb dX12_aligns_179 (by decide) ?_
                            refine lv_iload hx hb dX12_aligns_185 (lv_at hl 1 rfl) ?_
                            refine lv_if_ne (tgt := 194) hx hb dX12_aligns_187 (by decide) (fun c_126 => ?_) (fun c_126 => ?_)
                            · skip
                              rw [← Int32.toInt_inj, ti_0] at c_126
                              refine lv_iload_n hx hb dX12_aligns_194 rfl (lv_at hl 6 rfl) ?_
                              refine lv_iconst (v := 1) hx hb dX12_aligns_195 (by decide) ?_
                              refine lv_iadd hx hb dX12_aligns_196 ?_
                              refine lv_topi (fun x_127 ex_127 => ?_)
                              have hx_127 : x_127.toInt = p2.toInt + 1 := by rw [ex_127, ad_I (by rw [ti_1]; omega) (by rw [ti_1]; omega), ti_1]
                              have bx_127 : (1 ≤ x_127.toInt ∧ x_127.toInt ≤ 8) := by constructor <;> omega
                              refine lv_iload hx hb dX12_aligns_197 (lv_at hl 0 rfl) ?_
                              refine lv_if_eq (tgt := 208) hx hb dX12_aligns_199 (by decide) (fun c_128 => ?_) (fun c_128 => ?_)
                              · skip
                                rw [← Int32.toInt_inj, ti_0] at c_128
                                refine lv_iload_n hx hb dX12_aligns_208 rfl (lv_at hl 7 rfl) ?_
                                refine lv_iload hx hb dX12_aligns_209 (lv_at hl 8 rfl) ?_
                                refine lv_iconst (v := 1) hx hb dX12_aligns_211 (by decide) ?_
                                refine lv_iadd hx hb dX12_aligns_212 ?_
                                refine lv_topi (fun x_129 ex_129 => ?_)
                                have hx_129 : x_129.toInt = p4.toInt + 1 := by rw [ex_129, ad_I (by rw [ti_1]; omega) (by rw [ti_1]; omega), ti_1]
                                have bx_129 : (1 ≤ x_129.toInt ∧ x_129.toInt ≤ 14) := by constructor <;> omega
                                have hclc_130 : (1 ≤ x_129.toInt ∧ x_129.toInt ≤ 13) := by constructor <;> omega
                                refine lv_iload hx hb dX12_aligns_213 (lv_at hl 9 rfl) ?_
                                refine tk_ViP (As := [.int p1, .int x_127, .int p3, .int x_129, .int p5]) (rest := []) (n := 5) hx hb hml hown hU hN hZ (ih_rec f_117 hG o0 mo0 ko0 p1 (by constructor <;> omega) x_127 (by constructor <;> omega) p3 (by constructor <;> omega) x_129 (by constructor <;> omega) p5 (by intro w23 w35 e23 e35; rw [hfo_120] at e23 e35; obtain rfl := Option.some.inj e23; obtain rfl := Option.some.inj e35; omega) (by omega) (by omega)) wd_1054 wd_1055 wd_1056 wd_5 wd_1057 (by decide +kernel) ⟨(show (5 + n_) + 1 ≤ 5 + (n_ + 1) by omega), (show 8 + (10 + 11) + (129 + n_ * 29) ≤ 129 + (n_ + 1) * 29 by omega)⟩ hK hP hD hS mo0 hfo_120 12 rfl rfl rfl hl.1 rfl (Nat.le_of_ble_eq_true rfl) dX12_aligns_215 ⟨Nat.le_of_ble_eq_true rfl, Nat.le_of_ble_eq_true rfl⟩ (fun x_131 f_132 H locs hw hP hD hS => ?_)
                                obtain ⟨hG, bx_131, hkc_133⟩ := hw
                                have hfo_135 : f_132 o0 = .inr (12, [.ref a_2, .ref a_3, .ref a_4, .int v_5, .ref a_6, .int v_7, .int v_8, .int v_9, .int v_10, .int v_11, .int v_12, .int v_13, .int v_14, .int v_15, .int v_16, .ref a_17, .ref a_18, .ref a_19, .ref a_20, .ref a_21, .ref a_22, .ref a_23, .ref a_24, .int v_25, .int v_26, .int v_27, .int v_28, .int v_29, .ref a_30, .int v_31, .ref a_32, .ref a_33, .int v_34, .int v_35, .ref a_36, .int v_37, .ref a_38, .ref a_39, .int v_40, .int v_41, .ref a_42, .ref a_43, .ref a_44, .int v_45, .ref a_46, .ref a_47, .ref a_48, .ref a_49, .ref a_50, .ref a_51, .ref a_52, .ref a_53, .ref a_54, .int v_55, .int v_56, .ref a_57]) := by rw [hkc_133 o0 (by rw [ko0]; decide) (by rw [ko0]; decide) (by rw [ko0]; decide) (by rw [ko0]; decide) (by rw [ko0]; decide) (by rw [ko0]; decide)]; exact hfo_120
                                have hfo_136 : f_132 a_2 = .inl (cI, 1560, .inl g_70) := by rw [hkc_133 a_2 (by rw [ka_2]; decide) (by rw [ka_2]; decide) (by rw [ka_2]; decide) (by rw [ka_2]; decide) (by rw [ka_2]; decide) (by rw [ka_2]; decide)]; exact hfo_121
                                have hfo_137 : f_132 a_36 = .inl (cI, 16, .inl g_111) := by rw [hkc_133 a_36 (by rw [ka_36]; decide) (by rw [ka_36]; decide) (by rw [ka_36]; decide) (by rw [ka_36]; decide) (by rw [ka_36]; decide) (by rw [ka_36]; decide)]; exact hfo_122
                                have hfr0 : ∀ b, kd b ≠ 579 → kd b ≠ 581 → kd b ≠ 583 → kd b ≠ 585 → kd b ≠ 587 → kd b ≠ 588 → f_132 b = f b := fun b q579 q581 q583 q585 q587 q588 => (hkc_133 b q579 q581 q583 q585 q587 q588).trans (hfr0 b q579 q581 q583 q585 q587 q588)
                                refine lv_if_eq (tgt := 223) hx hb dX12_aligns_218 (by decide) (fun c_138 => ?_) (fun c_138 => ?_)
                                · skip
                                  rw [← Int32.toInt_inj, ti_0] at c_138
                                  obtain ⟨x_139, ex_139⟩ : ∃ y : Int32, y_65 + 1 = y := ⟨_, rfl⟩
                                  have hx_139 : x_139.toInt = y_65.toInt + 1 := by rw [← ex_139, ad_I (by rw [ti_1]; omega) (by rw [ti_1]; omega), ti_1]
                                  have bx_139 : (1 ≤ x_139.toInt ∧ x_139.toInt ≤ 20) := by constructor <;> omega
                                  refine lv_iinc (v := x_139) (lv' := [(6, .int x_139), (9, .int y_79), (8, .int x_78), (7, .int x_75), (0, .ref o0), (1, .int p1), (2, .int p2), (3, .int p3), (4, .int p4), (5, .int p5)]) hx hb dX12_aligns_223 hl (k := 3) rfl ex_139 (by decide) rfl (fun ls hl => ?_)
                                  refine lv_goto (tgt := 32) hx hb dX12_aligns_226 (by decide) ?_
                                  exact ih_hloop_64 x_139 (by constructor <;> omega) f_132 hG _ _ hP hS hD hfr0 hfo_135 (by omega) ls (lv_sub hl [0, 4, 5, 6, 7, 8, 9] rfl)
                                · skip
                                  rw [← Int32.toInt_inj, ti_0] at c_138
                                  refine lv_iconst (v := 1) hx hb dX12_aligns_221 (by decide) ?_
                                  exact W.zret (v := 1) (ty := .boolean) hx hb hr rfl (fun t ht hW => ⟨⟨1, f_132, rfl, ⟨hG, (by decide), hfr0⟩, by rw [ht]; exact hP, va_K.moved hW.alike hK, pl_in hD⟩, hS.F ht⟩) hS.2.2 dX12_aligns_222
                              · skip
                                rw [← Int32.toInt_inj, ti_0] at c_128
                                exfalso
                                omega
                            · skip
                              rw [← Int32.toInt_inj, ti_0] at c_126
                              exfalso
                              omega
                      · skip
                        rw [← Int32.toInt_inj] at c_113
                        refine lv_goto (tgt := 223) hx hb dX12_aligns_148 (by decide) ?_
                        obtain ⟨x_140, ex_140⟩ : ∃ y : Int32, y_65 + 1 = y := ⟨_, rfl⟩
                        have hx_140 : x_140.toInt = y_65.toInt + 1 := by rw [← ex_140, ad_I (by rw [ti_1]; omega) (by rw [ti_1]; omega), ti_1]
                        have bx_140 : (1 ≤ x_140.toInt ∧ x_140.toInt ≤ 20) := by constructor <;> omega
                        refine lv_iinc (v := x_140) (lv' := [(6, .int x_140), (9, .int y_79), (8, .int x_78), (7, .int x_75), (0, .ref o0), (1, .int p1), (2, .int p2), (3, .int p3), (4, .int p4), (5, .int p5)]) hx hb dX12_aligns_223 hl (k := 3) rfl ex_140 (by decide) rfl (fun ls hl => ?_)
                        refine lv_goto (tgt := 32) hx hb dX12_aligns_226 (by decide) ?_
                        exact ih_hloop_64 x_140 (by constructor <;> omega) f_67 hG _ _ hP hS hD hfr0 hfo_68 (by omega) ls (lv_sub hl [0, 4, 5, 6, 7, 8, 9] rfl)
                · skip
                  rw [← Int32.toInt_inj, ti_0] at c_82
                  refine lv_iload_n hx hb dX12_aligns_105 rfl (lv_at hl 5 rfl) ?_
                  refine lv_aload_n hx hb dX12_aligns_106 rfl (lv_at hl 4 rfl) ?_
                  refine tk_getP (D := (dC, dI)) (ci := 12) (v := .int v_25) (C := RX12) (T := TX12) (N := 56) hx hb hU inlX12 hown hK hP mo0 hfo_68 rfl 23 (by decide) (hU _ wd_867) (fun _ h9 => h9) rfl dX12_aligns_107 ?_
                  refine lv_icmp_eq (tgt := 223) hx hb dX12_aligns_110 (by decide) (fun c_141 => ?_) (fun c_141 => ?_)
                  · skip
                    rw [← Int32.toInt_inj] at c_141
                    obtain ⟨x_142, ex_142⟩ : ∃ y : Int32, y_65 + 1 = y := ⟨_, rfl⟩
                    have hx_142 : x_142.toInt = y_65.toInt + 1 := by rw [← ex_142, ad_I (by rw [ti_1]; omega) (by rw [ti_1]; omega), ti_1]
                    have bx_142 : (1 ≤ x_142.toInt ∧ x_142.toInt ≤ 20) := by constructor <;> omega
                    refine lv_iinc (v := x_142) (lv' := [(6, .int x_142), (9, .int y_79), (8, .int x_78), (7, .int x_75), (0, .ref o0), (1, .int p1), (2, .int p2), (3, .int p3), (4, .int p4), (5, .int p5)]) hx hb dX12_aligns_223 hl (k := 3) rfl ex_142 (by decide) rfl (fun ls hl => ?_)
                    refine lv_goto (tgt := 32) hx hb dX12_aligns_226 (by decide) ?_
                    exact ih_hloop_64 x_142 (by constructor <;> omega) f_67 hG _ _ hP hS hD hfr0 hfo_68 (by omega) ls (lv_sub hl [0, 4, 5, 6, 7, 8, 9] rfl)
                  · skip
                    rw [← Int32.toInt_inj] at c_141
                    have hclc_143 : (0 ≤ p1.toInt ∧ p1.toInt ≤ 11) := by constructor <;> omega
                    refine lv_aload_n hx hb dX12_aligns_113 rfl (lv_at hl 4 rfl) ?_
                    refine tk_getP (D := (dC, dI)) (ci := 12) (v := .ref a_23) (C := RX12) (T := TX12) (N := 56) hx hb hU inlX12 hown hK hP mo0 hfo_68 rfl 21 (by decide) (hU _ wd_181) (fun _ h9 => h9) rfl dX12_aligns_114 ?_
                    refine lv_iload_n hx hb dX12_aligns_117 rfl (lv_at hl 5 rfl) ?_
                    obtain ⟨g_145, hfo_144, hbg_145⟩ := un_589 (hG _ ma_23) ka_23
                    refine tk_ildP hx hb hK hP 0 ma_23 hfo_144 rfl (vp_in_iff.mpr (by constructor <;> omega)) dX12_aligns_118 ?_
                    refine lv_topi (fun x_146 ex_146 => ?_)
                    have bx_146 : (0 ≤ x_146.toInt ∧ x_146.toInt ≤ 8) := by rw [ex_146]; exact hbg_145 _
                    refine lv_iload hx hb dX12_aligns_119 (lv_at hl 2 rfl) ?_
                    refine lv_icmp_ne (tgt := 223) hx hb dX12_aligns_121 (by decide) (fun c_147 => ?_) (fun c_147 => ?_)
                    · skip
                      rw [← Int32.toInt_inj] at c_147
                      obtain ⟨x_148, ex_148⟩ : ∃ y : Int32, y_65 + 1 = y := ⟨_, rfl⟩
                      have hx_148 : x_148.toInt = y_65.toInt + 1 := by rw [← ex_148, ad_I (by rw [ti_1]; omega) (by rw [ti_1]; omega), ti_1]
                      have bx_148 : (1 ≤ x_148.toInt ∧ x_148.toInt ≤ 20) := by constructor <;> omega
                      refine lv_iinc (v := x_148) (lv' := [(6, .int x_148), (9, .int y_79), (8, .int x_78), (7, .int x_75), (0, .ref o0), (1, .int p1), (2, .int p2), (3, .int p3), (4, .int p4), (5, .int p5)]) hx hb dX12_aligns_223 hl (k := 3) rfl ex_148 (by decide) rfl (fun ls hl => ?_)
                      refine lv_goto (tgt := 32) hx hb dX12_aligns_226 (by decide) ?_
                      exact ih_hloop_64 x_148 (by constructor <;> omega) f_67 hG _ _ hP hS hD hfr0 hfo_68 (by omega) ls (lv_sub hl [0, 4, 5, 6, 7, 8, 9] rfl)
                    · skip
                      rw [← Int32.toInt_inj] at c_147
                      refine lv_iload hx hb dX12_aligns_124 (lv_at hl 1 rfl) ?_
                      refine lv_if_eq (tgt := 151) hx hb dX12_aligns_126 (by decide) (fun c_149 => ?_) (fun c_149 => ?_)
                      · skip
                        rw [← Int32.toInt_inj, ti_0] at c_149
                        refine lv_aload_n hx hb dX12_aligns_151 rfl (lv_at hl 4 rfl) ?_
                        refine lv_iload hx hb dX12_aligns_152 (lv_at hl 8 rfl) ?_
                        refine lv_aload_n hx hb dX12_aligns_154 rfl (lv_at hl 4 rfl) ?_
                        refine tk_getP (D := (dC, dI)) (ci := 12) (v := .ref a_2) (C := RX12) (T := TX12) (N := 56) hx hb hU inlX12 hown hK hP mo0 hfo_68 rfl 0 (by decide) (hU _ wd_169) (fun _ h9 => h9) rfl dX12_aligns_155 ?_
                        refine lv_bipush (v := 20) hx hb dX12_aligns_158 (by decide) ?_
                        refine lv_iload hx hb dX12_aligns_160 (lv_at hl 3 rfl) ?_
                        refine lv_iadd hx hb dX12_aligns_162 ?_
                        refine lv_topi (fun x_150 ex_150 => ?_)
                        have hx_150 : x_150.toInt = 20 + y_65.toInt := by rw [ex_150, ad_I (by rw [ti_20]; omega) (by rw [ti_20]; omega), ti_20]
                        have bx_150 : (20 ≤ x_150.toInt ∧ x_150.toInt ≤ 39) := by constructor <;> omega
                        refine tk_ildP hx hb hK hP 0 ma_2 hfo_69 rfl (vp_in_iff.mpr (by constructor <;> omega)) dX12_aligns_163 ?_
                        refine lv_topi (fun x_151 ex_151 => ?_)
                        have bx_151 : (0 ≤ x_151.toInt ∧ x_151.toInt ≤ 80) := by have hc9 := cl_I (i := x_150) (by omega); rw [ex_151]; exact hbg_70.2.2.2.2.2.1 _ (by omega) (by omega) (by omega)
                        refine lv_iload hx hb dX12_aligns_164 (lv_at hl 9 rfl) ?_
                        refine tk_ViP (As := [.int p4, .int x_151, .int p5]) (rest := []) (n := 3) hx hb hml hown hU hN hZ (s_X12_reads_k12 l (dC, dI) cI cL cZ cR cG cH Z kd L f_67 hG o0 mo0 ko0 p4 (by constructor <;> omega) x_151 p5) wd_950 wd_951 wd_952 wd_5 wd_953 (by decide +kernel) ⟨(show 4 + 1 ≤ 5 + (n_ + 1) by omega), (show 8 + (5 + 11) + 105 ≤ 129 + (n_ + 1) * 29 by omega)⟩ hK hP hD hS mo0 hfo_68 12 rfl rfl rfl hl.1 rfl (Nat.le_of_ble_eq_true rfl) dX12_aligns_166 ⟨Nat.le_of_ble_eq_true rfl, Nat.le_of_ble_eq_true rfl⟩ (fun x_152 f_153 H locs hw hP hD hS => ?_)
                        obtain ⟨hG, bx_152, hkc_154⟩ := hw
                        have hfo_156 : f_153 o0 = .inr (12, [.ref a_2, .ref a_3, .ref a_4, .int v_5, .ref a_6, .int v_7, .int v_8, .int v_9, .int v_10, .int v_11, .int v_12, .int v_13, .int v_14, .int v_15, .int v_16, .ref a_17, .ref a_18, .ref a_19, .ref a_20, .ref a_21, .ref a_22, .ref a_23, .ref a_24, .int v_25, .int v_26, .int v_27, .int v_28, .int v_29, .ref a_30, .int v_31, .ref a_32, .ref a_33, .int v_34, .int v_35, .ref a_36, .int v_37, .ref a_38, .ref a_39, .int v_40, .int v_41, .ref a_42, .ref a_43, .ref a_44, .int v_45, .ref a_46, .ref a_47, .ref a_48, .ref a_49, .ref a_50, .ref a_51, .ref a_52, .ref a_53, .ref a_54, .int v_55, .int v_56, .ref a_57]) := by rw [hkc_154 o0 (by rw [ko0]; decide) (by rw [ko0]; decide) (by rw [ko0]; decide) (by rw [ko0]; decide) (by rw [ko0]; decide) (by rw [ko0]; decide)]; exact hfo_68
                        have hfo_157 : f_153 a_2 = .inl (cI, 1560, .inl g_70) := by rw [hkc_154 a_2 (by rw [ka_2]; decide) (by rw [ka_2]; decide) (by rw [ka_2]; decide) (by rw [ka_2]; decide) (by rw [ka_2]; decide) (by rw [ka_2]; decide)]; exact hfo_69
                        have hfo_158 : f_153 a_23 = .inl (cI, 16, .inl g_145) := by rw [hkc_154 a_23 (by rw [ka_23]; decide) (by rw [ka_23]; decide) (by rw [ka_23]; decide) (by rw [ka_23]; decide) (by rw [ka_23]; decide) (by rw [ka_23]; decide)]; exact hfo_144
                        have hfr0 : ∀ b, kd b ≠ 579 → kd b ≠ 581 → kd b ≠ 583 → kd b ≠ 585 → kd b ≠ 587 → kd b ≠ 588 → f_153 b = f b := fun b q579 q581 q583 q585 q587 q588 => (hkc_154 b q579 q581 q583 q585 q587 q588).trans (hfr0 b q579 q581 q583 q585 q587 q588)
                        refine lv_if_eq (tgt := 223) hx hb dX12_aligns_169 (by decide) (fun c_159 => ?_) (fun c_159 => ?_)
                        · skip
                          rw [← Int32.toInt_inj, ti_0] at c_159
                          obtain ⟨x_160, ex_160⟩ : ∃ y : Int32, y_65 + 1 = y := ⟨_, rfl⟩
                          have hx_160 : x_160.toInt = y_65.toInt + 1 := by rw [← ex_160, ad_I (by rw [ti_1]; omega) (by rw [ti_1]; omega), ti_1]
                          have bx_160 : (1 ≤ x_160.toInt ∧ x_160.toInt ≤ 20) := by constructor <;> omega
                          refine lv_iinc (v := x_160) (lv' := [(6, .int x_160), (9, .int y_79), (8, .int x_78), (7, .int x_75), (0, .ref o0), (1, .int p1), (2, .int p2), (3, .int p3), (4, .int p4), (5, .int p5)]) hx hb dX12_aligns_223 hl (k := 3) rfl ex_160 (by decide) rfl (fun ls hl => ?_)
                          refine lv_goto (tgt := 32) hx hb dX12_aligns_226 (by decide) ?_
                          exact ih_hloop_64 x_160 (by constructor <;> omega) f_153 hG _ _ hP hS hD hfr0 hfo_156 (by omega) ls (lv_sub hl [0, 4, 5, 6, 7, 8, 9] rfl)
                        · skip
                          rw [← Int32.toInt_inj, ti_0] at c_159
                          refine lv_aload_n hx hb dX12_aligns_172 rfl (lv_at hl 4 rfl) ?_
                          refine lv_iload hx hb dX12_aligns_173 (lv_at hl 2 rfl) ?_
                          refine lv_if_ne (tgt := 182) hx hb dX12_aligns_175 (by decide) (fun c_161 => ?_) (fun c_161 => ?_)
                          · skip
                            rw [← Int32.toInt_inj, ti_0] at c_161
                            refine lv_iload_n hx hb dX12_aligns_182 rfl (lv_at hl 5 rfl) ?_
                            refine lv_iconst (v := 1) hx hb dX12_aligns_183 (by decide) ?_
                            refine lv_iadd hx hb dX12_aligns_184 ?_
                            refine lv_topi (fun x_162 ex_162 => ?_)
                            have hx_162 : x_162.toInt = p1.toInt + 1 := by rw [ex_162, ad_I (by rw [ti_1]; omega) (by rw [ti_1]; omega), ti_1]
                            have bx_162 : (1 ≤ x_162.toInt ∧ x_162.toInt ≤ 12) := by constructor <;> omega
                            refine lv_iload hx hb dX12_aligns_185 (lv_at hl 1 rfl) ?_
                            refine lv_if_ne (tgt := 194) hx hb dX12_aligns_187 (by decide) (fun c_163 => ?_) (fun c_163 => ?_)
                            · skip
                              rw [← Int32.toInt_inj, ti_0] at c_163
                              exfalso
                              omega
                            · skip
                              rw [← Int32.toInt_inj, ti_0] at c_163
                              refine lv_iload_n hx hb dX12_aligns_190 rfl (lv_at hl 6 rfl) ?_
                              refine lv_goto (tgt := 197) hx hb dX12_aligns_191 (by decide) ?_
                              refine lv_iload hx hb dX12_aligns_197 (lv_at hl 0 rfl) ?_
                              refine lv_if_eq (tgt := 208) hx hb dX12_aligns_199 (by decide) (fun c_164 => ?_) (fun c_164 => ?_)
                              · skip
                                rw [← Int32.toInt_inj, ti_0] at c_164
                                refine lv_iload_n hx hb dX12_aligns_208 rfl (lv_at hl 7 rfl) ?_
                                refine lv_iload hx hb dX12_aligns_209 (lv_at hl 8 rfl) ?_
                                refine lv_iconst (v := 1) hx hb dX12_aligns_211 (by decide) ?_
                                refine lv_iadd hx hb dX12_aligns_212 ?_
                                refine lv_topi (fun x_165 ex_165 => ?_)
                                have hx_165 : x_165.toInt = p4.toInt + 1 := by rw [ex_165, ad_I (by rw [ti_1]; omega) (by rw [ti_1]; omega), ti_1]
                                have bx_165 : (1 ≤ x_165.toInt ∧ x_165.toInt ≤ 14) := by constructor <;> omega
                                have hclc_166 : (1 ≤ x_165.toInt ∧ x_165.toInt ≤ 13) := by constructor <;> omega
                                refine lv_iload hx hb dX12_aligns_213 (lv_at hl 9 rfl) ?_
                                refine tk_ViP (As := [.int x_162, .int p2, .int p3, .int x_165, .int p5]) (rest := []) (n := 5) hx hb hml hown hU hN hZ (ih_rec f_153 hG o0 mo0 ko0 x_162 (by constructor <;> omega) p2 (by constructor <;> omega) p3 (by constructor <;> omega) x_165 (by constructor <;> omega) p5 (by intro w23 w35 e23 e35; rw [hfo_156] at e23 e35; obtain rfl := Option.some.inj e23; obtain rfl := Option.some.inj e35; omega) (by omega) (by omega)) wd_1054 wd_1055 wd_1056 wd_5 wd_1057 (by decide +kernel) ⟨(show (5 + n_) + 1 ≤ 5 + (n_ + 1) by omega), (show 8 + (10 + 11) + (129 + n_ * 29) ≤ 129 + (n_ + 1) * 29 by omega)⟩ hK hP hD hS mo0 hfo_156 12 rfl rfl rfl hl.1 rfl (Nat.le_of_ble_eq_true rfl) dX12_aligns_215 ⟨Nat.le_of_ble_eq_true rfl, Nat.le_of_ble_eq_true rfl⟩ (fun x_167 f_168 H locs hw hP hD hS => ?_)
                                obtain ⟨hG, bx_167, hkc_169⟩ := hw
                                have hfo_171 : f_168 o0 = .inr (12, [.ref a_2, .ref a_3, .ref a_4, .int v_5, .ref a_6, .int v_7, .int v_8, .int v_9, .int v_10, .int v_11, .int v_12, .int v_13, .int v_14, .int v_15, .int v_16, .ref a_17, .ref a_18, .ref a_19, .ref a_20, .ref a_21, .ref a_22, .ref a_23, .ref a_24, .int v_25, .int v_26, .int v_27, .int v_28, .int v_29, .ref a_30, .int v_31, .ref a_32, .ref a_33, .int v_34, .int v_35, .ref a_36, .int v_37, .ref a_38, .ref a_39, .int v_40, .int v_41, .ref a_42, .ref a_43, .ref a_44, .int v_45, .ref a_46, .ref a_47, .ref a_48, .ref a_49, .ref a_50, .ref a_51, .ref a_52, .ref a_53, .ref a_54, .int v_55, .int v_56, .ref a_57]) := by rw [hkc_169 o0 (by rw [ko0]; decide) (by rw [ko0]; decide) (by rw [ko0]; decide) (by rw [ko0]; decide) (by rw [ko0]; decide) (by rw [ko0]; decide)]; exact hfo_156
                                have hfo_172 : f_168 a_2 = .inl (cI, 1560, .inl g_70) := by rw [hkc_169 a_2 (by rw [ka_2]; decide) (by rw [ka_2]; decide) (by rw [ka_2]; decide) (by rw [ka_2]; decide) (by rw [ka_2]; decide) (by rw [ka_2]; decide)]; exact hfo_157
                                have hfo_173 : f_168 a_23 = .inl (cI, 16, .inl g_145) := by rw [hkc_169 a_23 (by rw [ka_23]; decide) (by rw [ka_23]; decide) (by rw [ka_23]; decide) (by rw [ka_23]; decide) (by rw [ka_23]; decide) (by rw [ka_23]; decide)]; exact hfo_158
                                have hfr0 : ∀ b, kd b ≠ 579 → kd b ≠ 581 → kd b ≠ 583 → kd b ≠ 585 → kd b ≠ 587 → kd b ≠ 588 → f_168 b = f b := fun b q579 q581 q583 q585 q587 q588 => (hkc_169 b q579 q581 q583 q585 q587 q588).trans (hfr0 b q579 q581 q583 q585 q587 q588)
                                refine lv_if_eq (tgt := 223) hx hb dX12_aligns_218 (by decide) (fun c_174 => ?_) (fun c_174 => ?_)
                                · skip
                                  rw [← Int32.toInt_inj, ti_0] at c_174
                                  obtain ⟨x_175, ex_175⟩ : ∃ y : Int32, y_65 + 1 = y := ⟨_, rfl⟩
                                  have hx_175 : x_175.toInt = y_65.toInt + 1 := by rw [← ex_175, ad_I (by rw [ti_1]; omega) (by rw [ti_1]; omega), ti_1]
                                  have bx_175 : (1 ≤ x_175.toInt ∧ x_175.toInt ≤ 20) := by constructor <;> omega
                                  refine lv_iinc (v := x_175) (lv' := [(6, .int x_175), (9, .int y_79), (8, .int x_78), (7, .int x_75), (0, .ref o0), (1, .int p1), (2, .int p2), (3, .int p3), (4, .int p4), (5, .int p5)]) hx hb dX12_aligns_223 hl (k := 3) rfl ex_175 (by decide) rfl (fun ls hl => ?_)
                                  refine lv_goto (tgt := 32) hx hb dX12_aligns_226 (by decide) ?_
                                  exact ih_hloop_64 x_175 (by constructor <;> omega) f_168 hG _ _ hP hS hD hfr0 hfo_171 (by omega) ls (lv_sub hl [0, 4, 5, 6, 7, 8, 9] rfl)
                                · skip
                                  rw [← Int32.toInt_inj, ti_0] at c_174
                                  refine lv_iconst (v := 1) hx hb dX12_aligns_221 (by decide) ?_
                                  exact W.zret (v := 1) (ty := .boolean) hx hb hr rfl (fun t ht hW => ⟨⟨1, f_168, rfl, ⟨hG, (by decide), hfr0⟩, by rw [ht]; exact hP, va_K.moved hW.alike hK, pl_in hD⟩, hS.F ht⟩) hS.2.2 dX12_aligns_222
                              · skip
                                rw [← Int32.toInt_inj, ti_0] at c_164
                                exfalso
                                omega
                          · skip
                            rw [← Int32.toInt_inj, ti_0] at c_161
                            exfalso
                            omega
                      · skip
                        rw [← Int32.toInt_inj, ti_0] at c_149
                        refine lv_iload_n hx hb dX12_aligns_129 rfl (lv_at hl 6 rfl) ?_
                        refine lv_aload_n hx hb dX12_aligns_130 rfl (lv_at hl 4 rfl) ?_
                        refine tk_getP (D := (dC, dI)) (ci := 12) (v := .int v_37) (C := RX12) (T := TX12) (N := 56) hx hb hU inlX12 hown hK hP mo0 hfo_68 rfl 35 (by decide) (hU _ wd_1049) (fun _ h9 => h9) rfl dX12_aligns_131 ?_
                        refine lv_icmp_eq (tgt := 223) hx hb dX12_aligns_134 (by decide) (fun c_176 => ?_) (fun c_176 => ?_)
                        · skip
                          rw [← Int32.toInt_inj] at c_176
                          obtain ⟨x_177, ex_177⟩ : ∃ y : Int32, y_65 + 1 = y := ⟨_, rfl⟩
                          have hx_177 : x_177.toInt = y_65.toInt + 1 := by rw [← ex_177, ad_I (by rw [ti_1]; omega) (by rw [ti_1]; omega), ti_1]
                          have bx_177 : (1 ≤ x_177.toInt ∧ x_177.toInt ≤ 20) := by constructor <;> omega
                          refine lv_iinc (v := x_177) (lv' := [(6, .int x_177), (9, .int y_79), (8, .int x_78), (7, .int x_75), (0, .ref o0), (1, .int p1), (2, .int p2), (3, .int p3), (4, .int p4), (5, .int p5)]) hx hb dX12_aligns_223 hl (k := 3) rfl ex_177 (by decide) rfl (fun ls hl => ?_)
                          refine lv_goto (tgt := 32) hx hb dX12_aligns_226 (by decide) ?_
                          exact ih_hloop_64 x_177 (by constructor <;> omega) f_67 hG _ _ hP hS hD hfr0 hfo_68 (by omega) ls (lv_sub hl [0, 4, 5, 6, 7, 8, 9] rfl)
                        · skip
                          rw [← Int32.toInt_inj] at c_176
                          have hclc_178 : (0 ≤ p2.toInt ∧ p2.toInt ≤ 7) := by constructor <;> omega
                          refine lv_aload_n hx hb dX12_aligns_137 rfl (lv_at hl 4 rfl) ?_
                          refine tk_getP (D := (dC, dI)) (ci := 12) (v := .ref a_36) (C := RX12) (T := TX12) (N := 56) hx hb hU inlX12 hown hK hP mo0 hfo_68 rfl 34 (by decide) (hU _ wd_186) (fun _ h9 => h9) rfl dX12_aligns_138 ?_
                          refine lv_iload_n hx hb dX12_aligns_141 rfl (lv_at hl 6 rfl) ?_
                          obtain ⟨g_180, hfo_179, hbg_180⟩ := un_594 (hG _ ma_36) ka_36
                          refine tk_ildP hx hb hK hP 0 ma_36 hfo_179 rfl (vp_in_iff.mpr (by constructor <;> omega)) dX12_aligns_142 ?_
                          refine lv_topi (fun x_181 ex_181 => ?_)
                          have bx_181 : (0 ≤ x_181.toInt ∧ x_181.toInt ≤ 8) := by rw [ex_181]; exact hbg_180 _
                          refine lv_iload hx hb dX12_aligns_143 (lv_at hl 1 rfl) ?_
                          refine lv_icmp_eq (tgt := 151) hx hb dX12_aligns_145 (by decide) (fun c_182 => ?_) (fun c_182 => ?_)
                          · skip
                            rw [← Int32.toInt_inj] at c_182
                            refine lv_aload_n hx hb dX12_aligns_151 rfl (lv_at hl 4 rfl) ?_
                            refine lv_iload hx hb dX12_aligns_152 (lv_at hl 8 rfl) ?_
                            refine lv_aload_n hx hb dX12_aligns_154 rfl (lv_at hl 4 rfl) ?_
                            refine tk_getP (D := (dC, dI)) (ci := 12) (v := .ref a_2) (C := RX12) (T := TX12) (N := 56) hx hb hU inlX12 hown hK hP mo0 hfo_68 rfl 0 (by decide) (hU _ wd_169) (fun _ h9 => h9) rfl dX12_aligns_155 ?_
                            refine lv_bipush (v := 20) hx hb dX12_aligns_158 (by decide) ?_
                            refine lv_iload hx hb dX12_aligns_160 (lv_at hl 3 rfl) ?_
                            refine lv_iadd hx hb dX12_aligns_162 ?_
                            refine lv_topi (fun x_183 ex_183 => ?_)
                            have hx_183 : x_183.toInt = 20 + y_65.toInt := by rw [ex_183, ad_I (by rw [ti_20]; omega) (by rw [ti_20]; omega), ti_20]
                            have bx_183 : (20 ≤ x_183.toInt ∧ x_183.toInt ≤ 39) := by constructor <;> omega
                            refine tk_ildP hx hb hK hP 0 ma_2 hfo_69 rfl (vp_in_iff.mpr (by constructor <;> omega)) dX12_aligns_163 ?_
                            refine lv_topi (fun x_184 ex_184 => ?_)
                            have bx_184 : (0 ≤ x_184.toInt ∧ x_184.toInt ≤ 80) := by have hc9 := cl_I (i := x_183) (by omega); rw [ex_184]; exact hbg_70.2.2.2.2.2.1 _ (by omega) (by omega) (by omega)
                            refine lv_iload hx hb dX12_aligns_164 (lv_at hl 9 rfl) ?_
                            refine tk_ViP (As := [.int p4, .int x_184, .int p5]) (rest := []) (n := 3) hx hb hml hown hU hN hZ (s_X12_reads_k12 l (dC, dI) cI cL cZ cR cG cH Z kd L f_67 hG o0 mo0 ko0 p4 (by constructor <;> omega) x_184 p5) wd_950 wd_951 wd_952 wd_5 wd_953 (by decide +kernel) ⟨(show 4 + 1 ≤ 5 + (n_ + 1) by omega), (show 8 + (5 + 11) + 105 ≤ 129 + (n_ + 1) * 29 by omega)⟩ hK hP hD hS mo0 hfo_68 12 rfl rfl rfl hl.1 rfl (Nat.le_of_ble_eq_true rfl) dX12_aligns_166 ⟨Nat.le_of_ble_eq_true rfl, Nat.le_of_ble_eq_true rfl⟩ (fun x_185 f_186 H locs hw hP hD hS => ?_)
                            obtain ⟨hG, bx_185, hkc_187⟩ := hw
                            have hfo_189 : f_186 o0 = .inr (12, [.ref a_2, .ref a_3, .ref a_4, .int v_5, .ref a_6, .int v_7, .int v_8, .int v_9, .int v_10, .int v_11, .int v_12, .int v_13, .int v_14, .int v_15, .int v_16, .ref a_17, .ref a_18, .ref a_19, .ref a_20, .ref a_21, .ref a_22, .ref a_23, .ref a_24, .int v_25, .int v_26, .int v_27, .int v_28, .int v_29, .ref a_30, .int v_31, .ref a_32, .ref a_33, .int v_34, .int v_35, .ref a_36, .int v_37, .ref a_38, .ref a_39, .int v_40, .int v_41, .ref a_42, .ref a_43, .ref a_44, .int v_45, .ref a_46, .ref a_47, .ref a_48, .ref a_49, .ref a_50, .ref a_51, .ref a_52, .ref a_53, .ref a_54, .int v_55, .int v_56, .ref a_57]) := by rw [hkc_187 o0 (by rw [ko0]; decide) (by rw [ko0]; decide) (by rw [ko0]; decide) (by rw [ko0]; decide) (by rw [ko0]; decide) (by rw [ko0]; decide)]; exact hfo_68
                            have hfo_190 : f_186 a_2 = .inl (cI, 1560, .inl g_70) := by rw [hkc_187 a_2 (by rw [ka_2]; decide) (by rw [ka_2]; decide) (by rw [ka_2]; decide) (by rw [ka_2]; decide) (by rw [ka_2]; decide) (by rw [ka_2]; decide)]; exact hfo_69
                            have hfo_191 : f_186 a_23 = .inl (cI, 16, .inl g_145) := by rw [hkc_187 a_23 (by rw [ka_23]; decide) (by rw [ka_23]; decide) (by rw [ka_23]; decide) (by rw [ka_23]; decide) (by rw [ka_23]; decide) (by rw [ka_23]; decide)]; exact hfo_144
                            have hfo_192 : f_186 a_36 = .inl (cI, 16, .inl g_180) := by rw [hkc_187 a_36 (by rw [ka_36]; decide) (by rw [ka_36]; decide) (by rw [ka_36]; decide) (by rw [ka_36]; decide) (by rw [ka_36]; decide) (by rw [ka_36]; decide)]; exact hfo_179
                            have hfr0 : ∀ b, kd b ≠ 579 → kd b ≠ 581 → kd b ≠ 583 → kd b ≠ 585 → kd b ≠ 587 → kd b ≠ 588 → f_186 b = f b := fun b q579 q581 q583 q585 q587 q588 => (hkc_187 b q579 q581 q583 q585 q587 q588).trans (hfr0 b q579 q581 q583 q585 q587 q588)
                            refine lv_if_eq (tgt := 223) hx hb dX12_aligns_169 (by decide) (fun c_193 => ?_) (fun c_193 => ?_)
                            · skip
                              rw [← Int32.toInt_inj, ti_0] at c_193
                              obtain ⟨x_194, ex_194⟩ : ∃ y : Int32, y_65 + 1 = y := ⟨_, rfl⟩
                              have hx_194 : x_194.toInt = y_65.toInt + 1 := by rw [← ex_194, ad_I (by rw [ti_1]; omega) (by rw [ti_1]; omega), ti_1]
                              have bx_194 : (1 ≤ x_194.toInt ∧ x_194.toInt ≤ 20) := by constructor <;> omega
                              refine lv_iinc (v := x_194) (lv' := [(6, .int x_194), (9, .int y_79), (8, .int x_78), (7, .int x_75), (0, .ref o0), (1, .int p1), (2, .int p2), (3, .int p3), (4, .int p4), (5, .int p5)]) hx hb dX12_aligns_223 hl (k := 3) rfl ex_194 (by decide) rfl (fun ls hl => ?_)
                              refine lv_goto (tgt := 32) hx hb dX12_aligns_226 (by decide) ?_
                              exact ih_hloop_64 x_194 (by constructor <;> omega) f_186 hG _ _ hP hS hD hfr0 hfo_189 (by omega) ls (lv_sub hl [0, 4, 5, 6, 7, 8, 9] rfl)
                            · skip
                              rw [← Int32.toInt_inj, ti_0] at c_193
                              refine lv_aload_n hx hb dX12_aligns_172 rfl (lv_at hl 4 rfl) ?_
                              refine lv_iload hx hb dX12_aligns_173 (lv_at hl 2 rfl) ?_
                              refine lv_if_ne (tgt := 182) hx hb dX12_aligns_175 (by decide) (fun c_195 => ?_) (fun c_195 => ?_)
                              · skip
                                rw [← Int32.toInt_inj, ti_0] at c_195
                                refine lv_iload_n hx hb dX12_aligns_182 rfl (lv_at hl 5 rfl) ?_
                                refine lv_iconst (v := 1) hx hb dX12_aligns_183 (by decide) ?_
                                refine lv_iadd hx hb dX12_aligns_184 ?_
                                refine lv_topi (fun x_196 ex_196 => ?_)
                                have hx_196 : x_196.toInt = p1.toInt + 1 := by rw [ex_196, ad_I (by rw [ti_1]; omega) (by rw [ti_1]; omega), ti_1]
                                have bx_196 : (1 ≤ x_196.toInt ∧ x_196.toInt ≤ 12) := by constructor <;> omega
                                refine lv_iload hx hb dX12_aligns_185 (lv_at hl 1 rfl) ?_
                                refine lv_if_ne (tgt := 194) hx hb dX12_aligns_187 (by decide) (fun c_197 => ?_) (fun c_197 => ?_)
                                · skip
                                  rw [← Int32.toInt_inj, ti_0] at c_197
                                  refine lv_iload_n hx hb dX12_aligns_194 rfl (lv_at hl 6 rfl) ?_
                                  refine lv_iconst (v := 1) hx hb dX12_aligns_195 (by decide) ?_
                                  refine lv_iadd hx hb dX12_aligns_196 ?_
                                  refine lv_topi (fun x_198 ex_198 => ?_)
                                  have hx_198 : x_198.toInt = p2.toInt + 1 := by rw [ex_198, ad_I (by rw [ti_1]; omega) (by rw [ti_1]; omega), ti_1]
                                  have bx_198 : (1 ≤ x_198.toInt ∧ x_198.toInt ≤ 8) := by constructor <;> omega
                                  refine lv_iload hx hb dX12_aligns_197 (lv_at hl 0 rfl) ?_
                                  refine lv_if_eq (tgt := 208) hx hb dX12_aligns_199 (by decide) (fun c_199 => ?_) (fun c_199 => ?_)
                                  · skip
                                    rw [← Int32.toInt_inj, ti_0] at c_199
                                    refine lv_iload_n hx hb dX12_aligns_208 rfl (lv_at hl 7 rfl) ?_
                                    refine lv_iload hx hb dX12_aligns_209 (lv_at hl 8 rfl) ?_
                                    refine lv_iconst (v := 1) hx hb dX12_aligns_211 (by decide) ?_
                                    refine lv_iadd hx hb dX12_aligns_212 ?_
                                    refine lv_topi (fun x_200 ex_200 => ?_)
                                    have hx_200 : x_200.toInt = p4.toInt + 1 := by rw [ex_200, ad_I (by rw [ti_1]; omega) (by rw [ti_1]; omega), ti_1]
                                    have bx_200 : (1 ≤ x_200.toInt ∧ x_200.toInt ≤ 14) := by constructor <;> omega
                                    have hclc_201 : (1 ≤ x_200.toInt ∧ x_200.toInt ≤ 13) := by constructor <;> omega
                                    refine lv_iload hx hb dX12_aligns_213 (lv_at hl 9 rfl) ?_
                                    refine tk_ViP (As := [.int x_196, .int x_198, .int p3, .int x_200, .int p5]) (rest := []) (n := 5) hx hb hml hown hU hN hZ (ih_rec f_186 hG o0 mo0 ko0 x_196 (by constructor <;> omega) x_198 (by constructor <;> omega) p3 (by constructor <;> omega) x_200 (by constructor <;> omega) p5 (by intro w23 w35 e23 e35; rw [hfo_189] at e23 e35; obtain rfl := Option.some.inj e23; obtain rfl := Option.some.inj e35; omega) (by omega) (by omega)) wd_1054 wd_1055 wd_1056 wd_5 wd_1057 (by decide +kernel) ⟨(show (5 + n_) + 1 ≤ 5 + (n_ + 1) by omega), (show 8 + (10 + 11) + (129 + n_ * 29) ≤ 129 + (n_ + 1) * 29 by omega)⟩ hK hP hD hS mo0 hfo_189 12 rfl rfl rfl hl.1 rfl (Nat.le_of_ble_eq_true rfl) dX12_aligns_215 ⟨Nat.le_of_ble_eq_true rfl, Nat.le_of_ble_eq_true rfl⟩ (fun x_202 f_203 H locs hw hP hD hS => ?_)
                                    obtain ⟨hG, bx_202, hkc_204⟩ := hw
                                    have hfo_206 : f_203 o0 = .inr (12, [.ref a_2, .ref a_3, .ref a_4, .int v_5, .ref a_6, .int v_7, .int v_8, .int v_9, .int v_10, .int v_11, .int v_12, .int v_13, .int v_14, .int v_15, .int v_16, .ref a_17, .ref a_18, .ref a_19, .ref a_20, .ref a_21, .ref a_22, .ref a_23, .ref a_24, .int v_25, .int v_26, .int v_27, .int v_28, .int v_29, .ref a_30, .int v_31, .ref a_32, .ref a_33, .int v_34, .int v_35, .ref a_36, .int v_37, .ref a_38, .ref a_39, .int v_40, .int v_41, .ref a_42, .ref a_43, .ref a_44, .int v_45, .ref a_46, .ref a_47, .ref a_48, .ref a_49, .ref a_50, .ref a_51, .ref a_52, .ref a_53, .ref a_54, .int v_55, .int v_56, .ref a_57]) := by rw [hkc_204 o0 (by rw [ko0]; decide) (by rw [ko0]; decide) (by rw [ko0]; decide) (by rw [ko0]; decide) (by rw [ko0]; decide) (by rw [ko0]; decide)]; exact hfo_189
                                    have hfo_207 : f_203 a_2 = .inl (cI, 1560, .inl g_70) := by rw [hkc_204 a_2 (by rw [ka_2]; decide) (by rw [ka_2]; decide) (by rw [ka_2]; decide) (by rw [ka_2]; decide) (by rw [ka_2]; decide) (by rw [ka_2]; decide)]; exact hfo_190
                                    have hfo_208 : f_203 a_23 = .inl (cI, 16, .inl g_145) := by rw [hkc_204 a_23 (by rw [ka_23]; decide) (by rw [ka_23]; decide) (by rw [ka_23]; decide) (by rw [ka_23]; decide) (by rw [ka_23]; decide) (by rw [ka_23]; decide)]; exact hfo_191
                                    have hfo_209 : f_203 a_36 = .inl (cI, 16, .inl g_180) := by rw [hkc_204 a_36 (by rw [ka_36]; decide) (by rw [ka_36]; decide) (by rw [ka_36]; decide) (by rw [ka_36]; decide) (by rw [ka_36]; decide) (by rw [ka_36]; decide)]; exact hfo_192
                                    have hfr0 : ∀ b, kd b ≠ 579 → kd b ≠ 581 → kd b ≠ 583 → kd b ≠ 585 → kd b ≠ 587 → kd b ≠ 588 → f_203 b = f b := fun b q579 q581 q583 q585 q587 q588 => (hkc_204 b q579 q581 q583 q585 q587 q588).trans (hfr0 b q579 q581 q583 q585 q587 q588)
                                    refine lv_if_eq (tgt := 223) hx hb dX12_aligns_218 (by decide) (fun c_210 => ?_) (fun c_210 => ?_)
                                    · skip
                                      rw [← Int32.toInt_inj, ti_0] at c_210
                                      obtain ⟨x_211, ex_211⟩ : ∃ y : Int32, y_65 + 1 = y := ⟨_, rfl⟩
                                      have hx_211 : x_211.toInt = y_65.toInt + 1 := by rw [← ex_211, ad_I (by rw [ti_1]; omega) (by rw [ti_1]; omega), ti_1]
                                      have bx_211 : (1 ≤ x_211.toInt ∧ x_211.toInt ≤ 20) := by constructor <;> omega
                                      refine lv_iinc (v := x_211) (lv' := [(6, .int x_211), (9, .int y_79), (8, .int x_78), (7, .int x_75), (0, .ref o0), (1, .int p1), (2, .int p2), (3, .int p3), (4, .int p4), (5, .int p5)]) hx hb dX12_aligns_223 hl (k := 3) rfl ex_211 (by decide) rfl (fun ls hl => ?_)
                                      refine lv_goto (tgt := 32) hx hb dX12_aligns_226 (by decide) ?_
                                      exact ih_hloop_64 x_211 (by constructor <;> omega) f_203 hG _ _ hP hS hD hfr0 hfo_206 (by omega) ls (lv_sub hl [0, 4, 5, 6, 7, 8, 9] rfl)
                                    · skip
                                      rw [← Int32.toInt_inj, ti_0] at c_210
                                      refine lv_iconst (v := 1) hx hb dX12_aligns_221 (by decide) ?_
                                      exact W.zret (v := 1) (ty := .boolean) hx hb hr rfl (fun t ht hW => ⟨⟨1, f_203, rfl, ⟨hG, (by decide), hfr0⟩, by rw [ht]; exact hP, va_K.moved hW.alike hK, pl_in hD⟩, hS.F ht⟩) hS.2.2 dX12_aligns_222
                                  · skip
                                    rw [← Int32.toInt_inj, ti_0] at c_199
                                    exfalso
                                    omega
                                · skip
                                  rw [← Int32.toInt_inj, ti_0] at c_197
                                  exfalso
                                  omega
                              · skip
                                rw [← Int32.toInt_inj, ti_0] at c_195
                                exfalso
                                omega
                          · skip
                            rw [← Int32.toInt_inj] at c_182
                            refine lv_goto (tgt := 223) hx hb dX12_aligns_148 (by decide) ?_
                            obtain ⟨x_212, ex_212⟩ : ∃ y : Int32, y_65 + 1 = y := ⟨_, rfl⟩
                            have hx_212 : x_212.toInt = y_65.toInt + 1 := by rw [← ex_212, ad_I (by rw [ti_1]; omega) (by rw [ti_1]; omega), ti_1]
                            have bx_212 : (1 ≤ x_212.toInt ∧ x_212.toInt ≤ 20) := by constructor <;> omega
                            refine lv_iinc (v := x_212) (lv' := [(6, .int x_212), (9, .int y_79), (8, .int x_78), (7, .int x_75), (0, .ref o0), (1, .int p1), (2, .int p2), (3, .int p3), (4, .int p4), (5, .int p5)]) hx hb dX12_aligns_223 hl (k := 3) rfl ex_212 (by decide) rfl (fun ls hl => ?_)
                            refine lv_goto (tgt := 32) hx hb dX12_aligns_226 (by decide) ?_
                            exact ih_hloop_64 x_212 (by constructor <;> omega) f_67 hG _ _ hP hS hD hfr0 hfo_68 (by omega) ls (lv_sub hl [0, 4, 5, 6, 7, 8, 9] rfl)
              · skip
                rw [← Int32.toInt_inj, ti_0] at c_81
                refine lv_iload_n hx hb dX12_aligns_96 rfl (lv_at hl 7 rfl) ?_
                refine lv_if_eq (tgt := 223) hx hb dX12_aligns_97 (by decide) (fun c_213 => ?_) (fun c_213 => ?_)
                · skip
                  rw [← Int32.toInt_inj, ti_0] at c_213
                  obtain ⟨x_214, ex_214⟩ : ∃ y : Int32, y_65 + 1 = y := ⟨_, rfl⟩
                  have hx_214 : x_214.toInt = y_65.toInt + 1 := by rw [← ex_214, ad_I (by rw [ti_1]; omega) (by rw [ti_1]; omega), ti_1]
                  have bx_214 : (1 ≤ x_214.toInt ∧ x_214.toInt ≤ 20) := by constructor <;> omega
                  refine lv_iinc (v := x_214) (lv' := [(6, .int x_214), (9, .int y_79), (8, .int x_78), (7, .int x_75), (0, .ref o0), (1, .int p1), (2, .int p2), (3, .int p3), (4, .int p4), (5, .int p5)]) hx hb dX12_aligns_223 hl (k := 3) rfl ex_214 (by decide) rfl (fun ls hl => ?_)
                  refine lv_goto (tgt := 32) hx hb dX12_aligns_226 (by decide) ?_
                  exact ih_hloop_64 x_214 (by constructor <;> omega) f_67 hG _ _ hP hS hD hfr0 hfo_68 (by omega) ls (lv_sub hl [0, 4, 5, 6, 7, 8, 9] rfl)
                · skip
                  rw [← Int32.toInt_inj, ti_0] at c_213
                  refine lv_iload hx hb dX12_aligns_100 (lv_at hl 2 rfl) ?_
                  refine lv_if_eq (tgt := 124) hx hb dX12_aligns_102 (by decide) (fun c_215 => ?_) (fun c_215 => ?_)
                  · skip
                    rw [← Int32.toInt_inj, ti_0] at c_215
                    refine lv_iload hx hb dX12_aligns_124 (lv_at hl 1 rfl) ?_
                    refine lv_if_eq (tgt := 151) hx hb dX12_aligns_126 (by decide) (fun c_216 => ?_) (fun c_216 => ?_)
                    · skip
                      rw [← Int32.toInt_inj, ti_0] at c_216
                      refine lv_aload_n hx hb dX12_aligns_151 rfl (lv_at hl 4 rfl) ?_
                      refine lv_iload hx hb dX12_aligns_152 (lv_at hl 8 rfl) ?_
                      refine lv_aload_n hx hb dX12_aligns_154 rfl (lv_at hl 4 rfl) ?_
                      refine tk_getP (D := (dC, dI)) (ci := 12) (v := .ref a_2) (C := RX12) (T := TX12) (N := 56) hx hb hU inlX12 hown hK hP mo0 hfo_68 rfl 0 (by decide) (hU _ wd_169) (fun _ h9 => h9) rfl dX12_aligns_155 ?_
                      refine lv_bipush (v := 20) hx hb dX12_aligns_158 (by decide) ?_
                      refine lv_iload hx hb dX12_aligns_160 (lv_at hl 3 rfl) ?_
                      refine lv_iadd hx hb dX12_aligns_162 ?_
                      refine lv_topi (fun x_217 ex_217 => ?_)
                      have hx_217 : x_217.toInt = 20 + y_65.toInt := by rw [ex_217, ad_I (by rw [ti_20]; omega) (by rw [ti_20]; omega), ti_20]
                      have bx_217 : (20 ≤ x_217.toInt ∧ x_217.toInt ≤ 39) := by constructor <;> omega
                      refine tk_ildP hx hb hK hP 0 ma_2 hfo_69 rfl (vp_in_iff.mpr (by constructor <;> omega)) dX12_aligns_163 ?_
                      refine lv_topi (fun x_218 ex_218 => ?_)
                      have bx_218 : (0 ≤ x_218.toInt ∧ x_218.toInt ≤ 80) := by have hc9 := cl_I (i := x_217) (by omega); rw [ex_218]; exact hbg_70.2.2.2.2.2.1 _ (by omega) (by omega) (by omega)
                      refine lv_iload hx hb dX12_aligns_164 (lv_at hl 9 rfl) ?_
                      refine tk_ViP (As := [.int p4, .int x_218, .int p5]) (rest := []) (n := 3) hx hb hml hown hU hN hZ (s_X12_reads_k12 l (dC, dI) cI cL cZ cR cG cH Z kd L f_67 hG o0 mo0 ko0 p4 (by constructor <;> omega) x_218 p5) wd_950 wd_951 wd_952 wd_5 wd_953 (by decide +kernel) ⟨(show 4 + 1 ≤ 5 + (n_ + 1) by omega), (show 8 + (5 + 11) + 105 ≤ 129 + (n_ + 1) * 29 by omega)⟩ hK hP hD hS mo0 hfo_68 12 rfl rfl rfl hl.1 rfl (Nat.le_of_ble_eq_true rfl) dX12_aligns_166 ⟨Nat.le_of_ble_eq_true rfl, Nat.le_of_ble_eq_true rfl⟩ (fun x_219 f_220 H locs hw hP hD hS => ?_)
                      obtain ⟨hG, bx_219, hkc_221⟩ := hw
                      have hfo_223 : f_220 o0 = .inr (12, [.ref a_2, .ref a_3, .ref a_4, .int v_5, .ref a_6, .int v_7, .int v_8, .int v_9, .int v_10, .int v_11, .int v_12, .int v_13, .int v_14, .int v_15, .int v_16, .ref a_17, .ref a_18, .ref a_19, .ref a_20, .ref a_21, .ref a_22, .ref a_23, .ref a_24, .int v_25, .int v_26, .int v_27, .int v_28, .int v_29, .ref a_30, .int v_31, .ref a_32, .ref a_33, .int v_34, .int v_35, .ref a_36, .int v_37, .ref a_38, .ref a_39, .int v_40, .int v_41, .ref a_42, .ref a_43, .ref a_44, .int v_45, .ref a_46, .ref a_47, .ref a_48, .ref a_49, .ref a_50, .ref a_51, .ref a_52, .ref a_53, .ref a_54, .int v_55, .int v_56, .ref a_57]) := by rw [hkc_221 o0 (by rw [ko0]; decide) (by rw [ko0]; decide) (by rw [ko0]; decide) (by rw [ko0]; decide) (by rw [ko0]; decide) (by rw [ko0]; decide)]; exact hfo_68
                      have hfo_224 : f_220 a_2 = .inl (cI, 1560, .inl g_70) := by rw [hkc_221 a_2 (by rw [ka_2]; decide) (by rw [ka_2]; decide) (by rw [ka_2]; decide) (by rw [ka_2]; decide) (by rw [ka_2]; decide) (by rw [ka_2]; decide)]; exact hfo_69
                      have hfr0 : ∀ b, kd b ≠ 579 → kd b ≠ 581 → kd b ≠ 583 → kd b ≠ 585 → kd b ≠ 587 → kd b ≠ 588 → f_220 b = f b := fun b q579 q581 q583 q585 q587 q588 => (hkc_221 b q579 q581 q583 q585 q587 q588).trans (hfr0 b q579 q581 q583 q585 q587 q588)
                      refine lv_if_eq (tgt := 223) hx hb dX12_aligns_169 (by decide) (fun c_225 => ?_) (fun c_225 => ?_)
                      · skip
                        rw [← Int32.toInt_inj, ti_0] at c_225
                        obtain ⟨x_226, ex_226⟩ : ∃ y : Int32, y_65 + 1 = y := ⟨_, rfl⟩
                        have hx_226 : x_226.toInt = y_65.toInt + 1 := by rw [← ex_226, ad_I (by rw [ti_1]; omega) (by rw [ti_1]; omega), ti_1]
                        have bx_226 : (1 ≤ x_226.toInt ∧ x_226.toInt ≤ 20) := by constructor <;> omega
                        refine lv_iinc (v := x_226) (lv' := [(6, .int x_226), (9, .int y_79), (8, .int x_78), (7, .int x_75), (0, .ref o0), (1, .int p1), (2, .int p2), (3, .int p3), (4, .int p4), (5, .int p5)]) hx hb dX12_aligns_223 hl (k := 3) rfl ex_226 (by decide) rfl (fun ls hl => ?_)
                        refine lv_goto (tgt := 32) hx hb dX12_aligns_226 (by decide) ?_
                        exact ih_hloop_64 x_226 (by constructor <;> omega) f_220 hG _ _ hP hS hD hfr0 hfo_223 (by omega) ls (lv_sub hl [0, 4, 5, 6, 7, 8, 9] rfl)
                      · skip
                        rw [← Int32.toInt_inj, ti_0] at c_225
                        refine lv_aload_n hx hb dX12_aligns_172 rfl (lv_at hl 4 rfl) ?_
                        refine lv_iload hx hb dX12_aligns_173 (lv_at hl 2 rfl) ?_
                        refine lv_if_ne (tgt := 182) hx hb dX12_aligns_175 (by decide) (fun c_227 => ?_) (fun c_227 => ?_)
                        · skip
                          rw [← Int32.toInt_inj, ti_0] at c_227
                          exfalso
                          omega
                        · skip
                          rw [← Int32.toInt_inj, ti_0] at c_227
                          refine lv_iload_n hx hb dX12_aligns_178 rfl (lv_at hl 5 rfl) ?_
                          refine lv_goto (tgt := 185) hx hb dX12_aligns_179 (by decide) ?_
                          refine lv_iload hx hb dX12_aligns_185 (lv_at hl 1 rfl) ?_
                          refine lv_if_ne (tgt := 194) hx hb dX12_aligns_187 (by decide) (fun c_228 => ?_) (fun c_228 => ?_)
                          · skip
                            rw [← Int32.toInt_inj, ti_0] at c_228
                            exfalso
                            omega
                          · skip
                            rw [← Int32.toInt_inj, ti_0] at c_228
                            refine lv_iload_n hx hb dX12_aligns_190 rfl (lv_at hl 6 rfl) ?_
                            refine lv_goto (tgt := 197) hx hb dX12_aligns_191 (by decide) ?_
                            refine lv_iload hx hb dX12_aligns_197 (lv_at hl 0 rfl) ?_
                            refine lv_if_eq (tgt := 208) hx hb dX12_aligns_199 (by decide) (fun c_229 => ?_) (fun c_229 => ?_)
                            · skip
                              rw [← Int32.toInt_inj, ti_0] at c_229
                              exfalso
                              omega
                            · skip
                              rw [← Int32.toInt_inj, ti_0] at c_229
                              refine lv_iload_n hx hb dX12_aligns_202 rfl (lv_at hl 7 rfl) ?_
                              refine lv_iconst (v := 1) hx hb dX12_aligns_203 (by decide) ?_
                              refine lv_isub hx hb dX12_aligns_204 ?_
                              refine lv_topi (fun x_230 ex_230 => ?_)
                              have hx_230 : x_230.toInt = p3.toInt - 1 := by rw [ex_230, sb_I (by rw [ti_1]; omega) (by rw [ti_1]; omega), ti_1]
                              have bx_230 : (0 ≤ x_230.toInt ∧ x_230.toInt ≤ 0) := by constructor <;> omega
                              refine lv_goto (tgt := 209) hx hb dX12_aligns_205 (by decide) ?_
                              refine lv_iload hx hb dX12_aligns_209 (lv_at hl 8 rfl) ?_
                              refine lv_iconst (v := 1) hx hb dX12_aligns_211 (by decide) ?_
                              refine lv_iadd hx hb dX12_aligns_212 ?_
                              refine lv_topi (fun x_231 ex_231 => ?_)
                              have hx_231 : x_231.toInt = p4.toInt + 1 := by rw [ex_231, ad_I (by rw [ti_1]; omega) (by rw [ti_1]; omega), ti_1]
                              have bx_231 : (1 ≤ x_231.toInt ∧ x_231.toInt ≤ 14) := by constructor <;> omega
                              have hclc_232 : (1 ≤ x_231.toInt ∧ x_231.toInt ≤ 13) := by constructor <;> omega
                              refine lv_iload hx hb dX12_aligns_213 (lv_at hl 9 rfl) ?_
                              refine tk_ViP (As := [.int p1, .int p2, .int x_230, .int x_231, .int p5]) (rest := []) (n := 5) hx hb hml hown hU hN hZ (ih_rec f_220 hG o0 mo0 ko0 p1 (by constructor <;> omega) p2 (by constructor <;> omega) x_230 (by constructor <;> omega) x_231 (by constructor <;> omega) p5 (by intro w23 w35 e23 e35; rw [hfo_223] at e23 e35; obtain rfl := Option.some.inj e23; obtain rfl := Option.some.inj e35; omega) (by omega) (by omega)) wd_1054 wd_1055 wd_1056 wd_5 wd_1057 (by decide +kernel) ⟨(show (5 + n_) + 1 ≤ 5 + (n_ + 1) by omega), (show 8 + (10 + 11) + (129 + n_ * 29) ≤ 129 + (n_ + 1) * 29 by omega)⟩ hK hP hD hS mo0 hfo_223 12 rfl rfl rfl hl.1 rfl (Nat.le_of_ble_eq_true rfl) dX12_aligns_215 ⟨Nat.le_of_ble_eq_true rfl, Nat.le_of_ble_eq_true rfl⟩ (fun x_233 f_234 H locs hw hP hD hS => ?_)
                              obtain ⟨hG, bx_233, hkc_235⟩ := hw
                              have hfo_237 : f_234 o0 = .inr (12, [.ref a_2, .ref a_3, .ref a_4, .int v_5, .ref a_6, .int v_7, .int v_8, .int v_9, .int v_10, .int v_11, .int v_12, .int v_13, .int v_14, .int v_15, .int v_16, .ref a_17, .ref a_18, .ref a_19, .ref a_20, .ref a_21, .ref a_22, .ref a_23, .ref a_24, .int v_25, .int v_26, .int v_27, .int v_28, .int v_29, .ref a_30, .int v_31, .ref a_32, .ref a_33, .int v_34, .int v_35, .ref a_36, .int v_37, .ref a_38, .ref a_39, .int v_40, .int v_41, .ref a_42, .ref a_43, .ref a_44, .int v_45, .ref a_46, .ref a_47, .ref a_48, .ref a_49, .ref a_50, .ref a_51, .ref a_52, .ref a_53, .ref a_54, .int v_55, .int v_56, .ref a_57]) := by rw [hkc_235 o0 (by rw [ko0]; decide) (by rw [ko0]; decide) (by rw [ko0]; decide) (by rw [ko0]; decide) (by rw [ko0]; decide) (by rw [ko0]; decide)]; exact hfo_223
                              have hfo_238 : f_234 a_2 = .inl (cI, 1560, .inl g_70) := by rw [hkc_235 a_2 (by rw [ka_2]; decide) (by rw [ka_2]; decide) (by rw [ka_2]; decide) (by rw [ka_2]; decide) (by rw [ka_2]; decide) (by rw [ka_2]; decide)]; exact hfo_224
                              have hfr0 : ∀ b, kd b ≠ 579 → kd b ≠ 581 → kd b ≠ 583 → kd b ≠ 585 → kd b ≠ 587 → kd b ≠ 588 → f_234 b = f b := fun b q579 q581 q583 q585 q587 q588 => (hkc_235 b q579 q581 q583 q585 q587 q588).trans (hfr0 b q579 q581 q583 q585 q587 q588)
                              refine lv_if_eq (tgt := 223) hx hb dX12_aligns_218 (by decide) (fun c_239 => ?_) (fun c_239 => ?_)
                              · skip
                                rw [← Int32.toInt_inj, ti_0] at c_239
                                obtain ⟨x_240, ex_240⟩ : ∃ y : Int32, y_65 + 1 = y := ⟨_, rfl⟩
                                have hx_240 : x_240.toInt = y_65.toInt + 1 := by rw [← ex_240, ad_I (by rw [ti_1]; omega) (by rw [ti_1]; omega), ti_1]
                                have bx_240 : (1 ≤ x_240.toInt ∧ x_240.toInt ≤ 20) := by constructor <;> omega
                                refine lv_iinc (v := x_240) (lv' := [(6, .int x_240), (9, .int y_79), (8, .int x_78), (7, .int x_75), (0, .ref o0), (1, .int p1), (2, .int p2), (3, .int p3), (4, .int p4), (5, .int p5)]) hx hb dX12_aligns_223 hl (k := 3) rfl ex_240 (by decide) rfl (fun ls hl => ?_)
                                refine lv_goto (tgt := 32) hx hb dX12_aligns_226 (by decide) ?_
                                exact ih_hloop_64 x_240 (by constructor <;> omega) f_234 hG _ _ hP hS hD hfr0 hfo_237 (by omega) ls (lv_sub hl [0, 4, 5, 6, 7, 8, 9] rfl)
                              · skip
                                rw [← Int32.toInt_inj, ti_0] at c_239
                                refine lv_iconst (v := 1) hx hb dX12_aligns_221 (by decide) ?_
                                exact W.zret (v := 1) (ty := .boolean) hx hb hr rfl (fun t ht hW => ⟨⟨1, f_234, rfl, ⟨hG, (by decide), hfr0⟩, by rw [ht]; exact hP, va_K.moved hW.alike hK, pl_in hD⟩, hS.F ht⟩) hS.2.2 dX12_aligns_222
                    · skip
                      rw [← Int32.toInt_inj, ti_0] at c_216
                      refine lv_iload_n hx hb dX12_aligns_129 rfl (lv_at hl 6 rfl) ?_
                      refine lv_aload_n hx hb dX12_aligns_130 rfl (lv_at hl 4 rfl) ?_
                      refine tk_getP (D := (dC, dI)) (ci := 12) (v := .int v_37) (C := RX12) (T := TX12) (N := 56) hx hb hU inlX12 hown hK hP mo0 hfo_68 rfl 35 (by decide) (hU _ wd_1049) (fun _ h9 => h9) rfl dX12_aligns_131 ?_
                      refine lv_icmp_eq (tgt := 223) hx hb dX12_aligns_134 (by decide) (fun c_241 => ?_) (fun c_241 => ?_)
                      · skip
                        rw [← Int32.toInt_inj] at c_241
                        obtain ⟨x_242, ex_242⟩ : ∃ y : Int32, y_65 + 1 = y := ⟨_, rfl⟩
                        have hx_242 : x_242.toInt = y_65.toInt + 1 := by rw [← ex_242, ad_I (by rw [ti_1]; omega) (by rw [ti_1]; omega), ti_1]
                        have bx_242 : (1 ≤ x_242.toInt ∧ x_242.toInt ≤ 20) := by constructor <;> omega
                        refine lv_iinc (v := x_242) (lv' := [(6, .int x_242), (9, .int y_79), (8, .int x_78), (7, .int x_75), (0, .ref o0), (1, .int p1), (2, .int p2), (3, .int p3), (4, .int p4), (5, .int p5)]) hx hb dX12_aligns_223 hl (k := 3) rfl ex_242 (by decide) rfl (fun ls hl => ?_)
                        refine lv_goto (tgt := 32) hx hb dX12_aligns_226 (by decide) ?_
                        exact ih_hloop_64 x_242 (by constructor <;> omega) f_67 hG _ _ hP hS hD hfr0 hfo_68 (by omega) ls (lv_sub hl [0, 4, 5, 6, 7, 8, 9] rfl)
                      · skip
                        rw [← Int32.toInt_inj] at c_241
                        have hclc_243 : (0 ≤ p2.toInt ∧ p2.toInt ≤ 7) := by constructor <;> omega
                        refine lv_aload_n hx hb dX12_aligns_137 rfl (lv_at hl 4 rfl) ?_
                        refine tk_getP (D := (dC, dI)) (ci := 12) (v := .ref a_36) (C := RX12) (T := TX12) (N := 56) hx hb hU inlX12 hown hK hP mo0 hfo_68 rfl 34 (by decide) (hU _ wd_186) (fun _ h9 => h9) rfl dX12_aligns_138 ?_
                        refine lv_iload_n hx hb dX12_aligns_141 rfl (lv_at hl 6 rfl) ?_
                        obtain ⟨g_245, hfo_244, hbg_245⟩ := un_594 (hG _ ma_36) ka_36
                        refine tk_ildP hx hb hK hP 0 ma_36 hfo_244 rfl (vp_in_iff.mpr (by constructor <;> omega)) dX12_aligns_142 ?_
                        refine lv_topi (fun x_246 ex_246 => ?_)
                        have bx_246 : (0 ≤ x_246.toInt ∧ x_246.toInt ≤ 8) := by rw [ex_246]; exact hbg_245 _
                        refine lv_iload hx hb dX12_aligns_143 (lv_at hl 1 rfl) ?_
                        refine lv_icmp_eq (tgt := 151) hx hb dX12_aligns_145 (by decide) (fun c_247 => ?_) (fun c_247 => ?_)
                        · skip
                          rw [← Int32.toInt_inj] at c_247
                          refine lv_aload_n hx hb dX12_aligns_151 rfl (lv_at hl 4 rfl) ?_
                          refine lv_iload hx hb dX12_aligns_152 (lv_at hl 8 rfl) ?_
                          refine lv_aload_n hx hb dX12_aligns_154 rfl (lv_at hl 4 rfl) ?_
                          refine tk_getP (D := (dC, dI)) (ci := 12) (v := .ref a_2) (C := RX12) (T := TX12) (N := 56) hx hb hU inlX12 hown hK hP mo0 hfo_68 rfl 0 (by decide) (hU _ wd_169) (fun _ h9 => h9) rfl dX12_aligns_155 ?_
                          refine lv_bipush (v := 20) hx hb dX12_aligns_158 (by decide) ?_
                          refine lv_iload hx hb dX12_aligns_160 (lv_at hl 3 rfl) ?_
                          refine lv_iadd hx hb dX12_aligns_162 ?_
                          refine lv_topi (fun x_248 ex_248 => ?_)
                          have hx_248 : x_248.toInt = 20 + y_65.toInt := by rw [ex_248, ad_I (by rw [ti_20]; omega) (by rw [ti_20]; omega), ti_20]
                          have bx_248 : (20 ≤ x_248.toInt ∧ x_248.toInt ≤ 39) := by constructor <;> omega
                          refine tk_ildP hx hb hK hP 0 ma_2 hfo_69 rfl (vp_in_iff.mpr (by constructor <;> omega)) dX12_aligns_163 ?_
                          refine lv_topi (fun x_249 ex_249 => ?_)
                          have bx_249 : (0 ≤ x_249.toInt ∧ x_249.toInt ≤ 80) := by have hc9 := cl_I (i := x_248) (by omega); rw [ex_249]; exact hbg_70.2.2.2.2.2.1 _ (by omega) (by omega) (by omega)
                          refine lv_iload hx hb dX12_aligns_164 (lv_at hl 9 rfl) ?_
                          refine tk_ViP (As := [.int p4, .int x_249, .int p5]) (rest := []) (n := 3) hx hb hml hown hU hN hZ (s_X12_reads_k12 l (dC, dI) cI cL cZ cR cG cH Z kd L f_67 hG o0 mo0 ko0 p4 (by constructor <;> omega) x_249 p5) wd_950 wd_951 wd_952 wd_5 wd_953 (by decide +kernel) ⟨(show 4 + 1 ≤ 5 + (n_ + 1) by omega), (show 8 + (5 + 11) + 105 ≤ 129 + (n_ + 1) * 29 by omega)⟩ hK hP hD hS mo0 hfo_68 12 rfl rfl rfl hl.1 rfl (Nat.le_of_ble_eq_true rfl) dX12_aligns_166 ⟨Nat.le_of_ble_eq_true rfl, Nat.le_of_ble_eq_true rfl⟩ (fun x_250 f_251 H locs hw hP hD hS => ?_)
                          obtain ⟨hG, bx_250, hkc_252⟩ := hw
                          have hfo_254 : f_251 o0 = .inr (12, [.ref a_2, .ref a_3, .ref a_4, .int v_5, .ref a_6, .int v_7, .int v_8, .int v_9, .int v_10, .int v_11, .int v_12, .int v_13, .int v_14, .int v_15, .int v_16, .ref a_17, .ref a_18, .ref a_19, .ref a_20, .ref a_21, .ref a_22, .ref a_23, .ref a_24, .int v_25, .int v_26, .int v_27, .int v_28, .int v_29, .ref a_30, .int v_31, .ref a_32, .ref a_33, .int v_34, .int v_35, .ref a_36, .int v_37, .ref a_38, .ref a_39, .int v_40, .int v_41, .ref a_42, .ref a_43, .ref a_44, .int v_45, .ref a_46, .ref a_47, .ref a_48, .ref a_49, .ref a_50, .ref a_51, .ref a_52, .ref a_53, .ref a_54, .int v_55, .int v_56, .ref a_57]) := by rw [hkc_252 o0 (by rw [ko0]; decide) (by rw [ko0]; decide) (by rw [ko0]; decide) (by rw [ko0]; decide) (by rw [ko0]; decide) (by rw [ko0]; decide)]; exact hfo_68
                          have hfo_255 : f_251 a_2 = .inl (cI, 1560, .inl g_70) := by rw [hkc_252 a_2 (by rw [ka_2]; decide) (by rw [ka_2]; decide) (by rw [ka_2]; decide) (by rw [ka_2]; decide) (by rw [ka_2]; decide) (by rw [ka_2]; decide)]; exact hfo_69
                          have hfo_256 : f_251 a_36 = .inl (cI, 16, .inl g_245) := by rw [hkc_252 a_36 (by rw [ka_36]; decide) (by rw [ka_36]; decide) (by rw [ka_36]; decide) (by rw [ka_36]; decide) (by rw [ka_36]; decide) (by rw [ka_36]; decide)]; exact hfo_244
                          have hfr0 : ∀ b, kd b ≠ 579 → kd b ≠ 581 → kd b ≠ 583 → kd b ≠ 585 → kd b ≠ 587 → kd b ≠ 588 → f_251 b = f b := fun b q579 q581 q583 q585 q587 q588 => (hkc_252 b q579 q581 q583 q585 q587 q588).trans (hfr0 b q579 q581 q583 q585 q587 q588)
                          refine lv_if_eq (tgt := 223) hx hb dX12_aligns_169 (by decide) (fun c_257 => ?_) (fun c_257 => ?_)
                          · skip
                            rw [← Int32.toInt_inj, ti_0] at c_257
                            obtain ⟨x_258, ex_258⟩ : ∃ y : Int32, y_65 + 1 = y := ⟨_, rfl⟩
                            have hx_258 : x_258.toInt = y_65.toInt + 1 := by rw [← ex_258, ad_I (by rw [ti_1]; omega) (by rw [ti_1]; omega), ti_1]
                            have bx_258 : (1 ≤ x_258.toInt ∧ x_258.toInt ≤ 20) := by constructor <;> omega
                            refine lv_iinc (v := x_258) (lv' := [(6, .int x_258), (9, .int y_79), (8, .int x_78), (7, .int x_75), (0, .ref o0), (1, .int p1), (2, .int p2), (3, .int p3), (4, .int p4), (5, .int p5)]) hx hb dX12_aligns_223 hl (k := 3) rfl ex_258 (by decide) rfl (fun ls hl => ?_)
                            refine lv_goto (tgt := 32) hx hb dX12_aligns_226 (by decide) ?_
                            exact ih_hloop_64 x_258 (by constructor <;> omega) f_251 hG _ _ hP hS hD hfr0 hfo_254 (by omega) ls (lv_sub hl [0, 4, 5, 6, 7, 8, 9] rfl)
                          · skip
                            rw [← Int32.toInt_inj, ti_0] at c_257
                            refine lv_aload_n hx hb dX12_aligns_172 rfl (lv_at hl 4 rfl) ?_
                            refine lv_iload hx hb dX12_aligns_173 (lv_at hl 2 rfl) ?_
                            refine lv_if_ne (tgt := 182) hx hb dX12_aligns_175 (by decide) (fun c_259 => ?_) (fun c_259 => ?_)
                            · skip
                              rw [← Int32.toInt_inj, ti_0] at c_259
                              exfalso
                              omega
                            · skip
                              rw [← Int32.toInt_inj, ti_0] at c_259
                              refine lv_iload_n hx hb dX12_aligns_178 rfl (lv_at hl 5 rfl) ?_
                              refine lv_goto (tgt := 185) hx hb dX12_aligns_179 (by decide) ?_
                              refine lv_iload hx hb dX12_aligns_185 (lv_at hl 1 rfl) ?_
                              refine lv_if_ne (tgt := 194) hx hb dX12_aligns_187 (by decide) (fun c_260 => ?_) (fun c_260 => ?_)
                              · skip
                                rw [← Int32.toInt_inj, ti_0] at c_260
                                refine lv_iload_n hx hb dX12_aligns_194 rfl (lv_at hl 6 rfl) ?_
                                refine lv_iconst (v := 1) hx hb dX12_aligns_195 (by decide) ?_
                                refine lv_iadd hx hb dX12_aligns_196 ?_
                                refine lv_topi (fun x_261 ex_261 => ?_)
                                have hx_261 : x_261.toInt = p2.toInt + 1 := by rw [ex_261, ad_I (by rw [ti_1]; omega) (by rw [ti_1]; omega), ti_1]
                                have bx_261 : (1 ≤ x_261.toInt ∧ x_261.toInt ≤ 8) := by constructor <;> omega
                                refine lv_iload hx hb dX12_aligns_197 (lv_at hl 0 rfl) ?_
                                refine lv_if_eq (tgt := 208) hx hb dX12_aligns_199 (by decide) (fun c_262 => ?_) (fun c_262 => ?_)
                                · skip
                                  rw [← Int32.toInt_inj, ti_0] at c_262
                                  exfalso
                                  omega
                                · skip
                                  rw [← Int32.toInt_inj, ti_0] at c_262
                                  refine lv_iload_n hx hb dX12_aligns_202 rfl (lv_at hl 7 rfl) ?_
                                  refine lv_iconst (v := 1) hx hb dX12_aligns_203 (by decide) ?_
                                  refine lv_isub hx hb dX12_aligns_204 ?_
                                  refine lv_topi (fun x_263 ex_263 => ?_)
                                  have hx_263 : x_263.toInt = p3.toInt - 1 := by rw [ex_263, sb_I (by rw [ti_1]; omega) (by rw [ti_1]; omega), ti_1]
                                  have bx_263 : (0 ≤ x_263.toInt ∧ x_263.toInt ≤ 0) := by constructor <;> omega
                                  refine lv_goto (tgt := 209) hx hb dX12_aligns_205 (by decide) ?_
                                  refine lv_iload hx hb dX12_aligns_209 (lv_at hl 8 rfl) ?_
                                  refine lv_iconst (v := 1) hx hb dX12_aligns_211 (by decide) ?_
                                  refine lv_iadd hx hb dX12_aligns_212 ?_
                                  refine lv_topi (fun x_264 ex_264 => ?_)
                                  have hx_264 : x_264.toInt = p4.toInt + 1 := by rw [ex_264, ad_I (by rw [ti_1]; omega) (by rw [ti_1]; omega), ti_1]
                                  have bx_264 : (1 ≤ x_264.toInt ∧ x_264.toInt ≤ 14) := by constructor <;> omega
                                  have hclc_265 : (1 ≤ x_264.toInt ∧ x_264.toInt ≤ 13) := by constructor <;> omega
                                  refine lv_iload hx hb dX12_aligns_213 (lv_at hl 9 rfl) ?_
                                  refine tk_ViP (As := [.int p1, .int x_261, .int x_263, .int x_264, .int p5]) (rest := []) (n := 5) hx hb hml hown hU hN hZ (ih_rec f_251 hG o0 mo0 ko0 p1 (by constructor <;> omega) x_261 (by constructor <;> omega) x_263 (by constructor <;> omega) x_264 (by constructor <;> omega) p5 (by intro w23 w35 e23 e35; rw [hfo_254] at e23 e35; obtain rfl := Option.some.inj e23; obtain rfl := Option.some.inj e35; omega) (by omega) (by omega)) wd_1054 wd_1055 wd_1056 wd_5 wd_1057 (by decide +kernel) ⟨(show (5 + n_) + 1 ≤ 5 + (n_ + 1) by omega), (show 8 + (10 + 11) + (129 + n_ * 29) ≤ 129 + (n_ + 1) * 29 by omega)⟩ hK hP hD hS mo0 hfo_254 12 rfl rfl rfl hl.1 rfl (Nat.le_of_ble_eq_true rfl) dX12_aligns_215 ⟨Nat.le_of_ble_eq_true rfl, Nat.le_of_ble_eq_true rfl⟩ (fun x_266 f_267 H locs hw hP hD hS => ?_)
                                  obtain ⟨hG, bx_266, hkc_268⟩ := hw
                                  have hfo_270 : f_267 o0 = .inr (12, [.ref a_2, .ref a_3, .ref a_4, .int v_5, .ref a_6, .int v_7, .int v_8, .int v_9, .int v_10, .int v_11, .int v_12, .int v_13, .int v_14, .int v_15, .int v_16, .ref a_17, .ref a_18, .ref a_19, .ref a_20, .ref a_21, .ref a_22, .ref a_23, .ref a_24, .int v_25, .int v_26, .int v_27, .int v_28, .int v_29, .ref a_30, .int v_31, .ref a_32, .ref a_33, .int v_34, .int v_35, .ref a_36, .int v_37, .ref a_38, .ref a_39, .int v_40, .int v_41, .ref a_42, .ref a_43, .ref a_44, .int v_45, .ref a_46, .ref a_47, .ref a_48, .ref a_49, .ref a_50, .ref a_51, .ref a_52, .ref a_53, .ref a_54, .int v_55, .int v_56, .ref a_57]) := by rw [hkc_268 o0 (by rw [ko0]; decide) (by rw [ko0]; decide) (by rw [ko0]; decide) (by rw [ko0]; decide) (by rw [ko0]; decide) (by rw [ko0]; decide)]; exact hfo_254
                                  have hfo_271 : f_267 a_2 = .inl (cI, 1560, .inl g_70) := by rw [hkc_268 a_2 (by rw [ka_2]; decide) (by rw [ka_2]; decide) (by rw [ka_2]; decide) (by rw [ka_2]; decide) (by rw [ka_2]; decide) (by rw [ka_2]; decide)]; exact hfo_255
                                  have hfo_272 : f_267 a_36 = .inl (cI, 16, .inl g_245) := by rw [hkc_268 a_36 (by rw [ka_36]; decide) (by rw [ka_36]; decide) (by rw [ka_36]; decide) (by rw [ka_36]; decide) (by rw [ka_36]; decide) (by rw [ka_36]; decide)]; exact hfo_256
                                  have hfr0 : ∀ b, kd b ≠ 579 → kd b ≠ 581 → kd b ≠ 583 → kd b ≠ 585 → kd b ≠ 587 → kd b ≠ 588 → f_267 b = f b := fun b q579 q581 q583 q585 q587 q588 => (hkc_268 b q579 q581 q583 q585 q587 q588).trans (hfr0 b q579 q581 q583 q585 q587 q588)
                                  refine lv_if_eq (tgt := 223) hx hb dX12_aligns_218 (by decide) (fun c_273 => ?_) (fun c_273 => ?_)
                                  · skip
                                    rw [← Int32.toInt_inj, ti_0] at c_273
                                    obtain ⟨x_274, ex_274⟩ : ∃ y : Int32, y_65 + 1 = y := ⟨_, rfl⟩
                                    have hx_274 : x_274.toInt = y_65.toInt + 1 := by rw [← ex_274, ad_I (by rw [ti_1]; omega) (by rw [ti_1]; omega), ti_1]
                                    have bx_274 : (1 ≤ x_274.toInt ∧ x_274.toInt ≤ 20) := by constructor <;> omega
                                    refine lv_iinc (v := x_274) (lv' := [(6, .int x_274), (9, .int y_79), (8, .int x_78), (7, .int x_75), (0, .ref o0), (1, .int p1), (2, .int p2), (3, .int p3), (4, .int p4), (5, .int p5)]) hx hb dX12_aligns_223 hl (k := 3) rfl ex_274 (by decide) rfl (fun ls hl => ?_)
                                    refine lv_goto (tgt := 32) hx hb dX12_aligns_226 (by decide) ?_
                                    exact ih_hloop_64 x_274 (by constructor <;> omega) f_267 hG _ _ hP hS hD hfr0 hfo_270 (by omega) ls (lv_sub hl [0, 4, 5, 6, 7, 8, 9] rfl)
                                  · skip
                                    rw [← Int32.toInt_inj, ti_0] at c_273
                                    refine lv_iconst (v := 1) hx hb dX12_aligns_221 (by decide) ?_
                                    exact W.zret (v := 1) (ty := .boolean) hx hb hr rfl (fun t ht hW => ⟨⟨1, f_267, rfl, ⟨hG, (by decide), hfr0⟩, by rw [ht]; exact hP, va_K.moved hW.alike hK, pl_in hD⟩, hS.F ht⟩) hS.2.2 dX12_aligns_222
                              · skip
                                rw [← Int32.toInt_inj, ti_0] at c_260
                                exfalso
                                omega
                        · skip
                          rw [← Int32.toInt_inj] at c_247
                          refine lv_goto (tgt := 223) hx hb dX12_aligns_148 (by decide) ?_
                          obtain ⟨x_275, ex_275⟩ : ∃ y : Int32, y_65 + 1 = y := ⟨_, rfl⟩
                          have hx_275 : x_275.toInt = y_65.toInt + 1 := by rw [← ex_275, ad_I (by rw [ti_1]; omega) (by rw [ti_1]; omega), ti_1]
                          have bx_275 : (1 ≤ x_275.toInt ∧ x_275.toInt ≤ 20) := by constructor <;> omega
                          refine lv_iinc (v := x_275) (lv' := [(6, .int x_275), (9, .int y_79), (8, .int x_78), (7, .int x_75), (0, .ref o0), (1, .int p1), (2, .int p2), (3, .int p3), (4, .int p4), (5, .int p5)]) hx hb dX12_aligns_223 hl (k := 3) rfl ex_275 (by decide) rfl (fun ls hl => ?_)
                          refine lv_goto (tgt := 32) hx hb dX12_aligns_226 (by decide) ?_
                          exact ih_hloop_64 x_275 (by constructor <;> omega) f_67 hG _ _ hP hS hD hfr0 hfo_68 (by omega) ls (lv_sub hl [0, 4, 5, 6, 7, 8, 9] rfl)
                  · skip
                    rw [← Int32.toInt_inj, ti_0] at c_215
                    refine lv_iload_n hx hb dX12_aligns_105 rfl (lv_at hl 5 rfl) ?_
                    refine lv_aload_n hx hb dX12_aligns_106 rfl (lv_at hl 4 rfl) ?_
                    refine tk_getP (D := (dC, dI)) (ci := 12) (v := .int v_25) (C := RX12) (T := TX12) (N := 56) hx hb hU inlX12 hown hK hP mo0 hfo_68 rfl 23 (by decide) (hU _ wd_867) (fun _ h9 => h9) rfl dX12_aligns_107 ?_
                    refine lv_icmp_eq (tgt := 223) hx hb dX12_aligns_110 (by decide) (fun c_276 => ?_) (fun c_276 => ?_)
                    · skip
                      rw [← Int32.toInt_inj] at c_276
                      obtain ⟨x_277, ex_277⟩ : ∃ y : Int32, y_65 + 1 = y := ⟨_, rfl⟩
                      have hx_277 : x_277.toInt = y_65.toInt + 1 := by rw [← ex_277, ad_I (by rw [ti_1]; omega) (by rw [ti_1]; omega), ti_1]
                      have bx_277 : (1 ≤ x_277.toInt ∧ x_277.toInt ≤ 20) := by constructor <;> omega
                      refine lv_iinc (v := x_277) (lv' := [(6, .int x_277), (9, .int y_79), (8, .int x_78), (7, .int x_75), (0, .ref o0), (1, .int p1), (2, .int p2), (3, .int p3), (4, .int p4), (5, .int p5)]) hx hb dX12_aligns_223 hl (k := 3) rfl ex_277 (by decide) rfl (fun ls hl => ?_)
                      refine lv_goto (tgt := 32) hx hb dX12_aligns_226 (by decide) ?_
                      exact ih_hloop_64 x_277 (by constructor <;> omega) f_67 hG _ _ hP hS hD hfr0 hfo_68 (by omega) ls (lv_sub hl [0, 4, 5, 6, 7, 8, 9] rfl)
                    · skip
                      rw [← Int32.toInt_inj] at c_276
                      have hclc_278 : (0 ≤ p1.toInt ∧ p1.toInt ≤ 11) := by constructor <;> omega
                      refine lv_aload_n hx hb dX12_aligns_113 rfl (lv_at hl 4 rfl) ?_
                      refine tk_getP (D := (dC, dI)) (ci := 12) (v := .ref a_23) (C := RX12) (T := TX12) (N := 56) hx hb hU inlX12 hown hK hP mo0 hfo_68 rfl 21 (by decide) (hU _ wd_181) (fun _ h9 => h9) rfl dX12_aligns_114 ?_
                      refine lv_iload_n hx hb dX12_aligns_117 rfl (lv_at hl 5 rfl) ?_
                      obtain ⟨g_280, hfo_279, hbg_280⟩ := un_589 (hG _ ma_23) ka_23
                      refine tk_ildP hx hb hK hP 0 ma_23 hfo_279 rfl (vp_in_iff.mpr (by constructor <;> omega)) dX12_aligns_118 ?_
                      refine lv_topi (fun x_281 ex_281 => ?_)
                      have bx_281 : (0 ≤ x_281.toInt ∧ x_281.toInt ≤ 8) := by rw [ex_281]; exact hbg_280 _
                      refine lv_iload hx hb dX12_aligns_119 (lv_at hl 2 rfl) ?_
                      refine lv_icmp_ne (tgt := 223) hx hb dX12_aligns_121 (by decide) (fun c_282 => ?_) (fun c_282 => ?_)
                      · skip
                        rw [← Int32.toInt_inj] at c_282
                        obtain ⟨x_283, ex_283⟩ : ∃ y : Int32, y_65 + 1 = y := ⟨_, rfl⟩
                        have hx_283 : x_283.toInt = y_65.toInt + 1 := by rw [← ex_283, ad_I (by rw [ti_1]; omega) (by rw [ti_1]; omega), ti_1]
                        have bx_283 : (1 ≤ x_283.toInt ∧ x_283.toInt ≤ 20) := by constructor <;> omega
                        refine lv_iinc (v := x_283) (lv' := [(6, .int x_283), (9, .int y_79), (8, .int x_78), (7, .int x_75), (0, .ref o0), (1, .int p1), (2, .int p2), (3, .int p3), (4, .int p4), (5, .int p5)]) hx hb dX12_aligns_223 hl (k := 3) rfl ex_283 (by decide) rfl (fun ls hl => ?_)
                        refine lv_goto (tgt := 32) hx hb dX12_aligns_226 (by decide) ?_
                        exact ih_hloop_64 x_283 (by constructor <;> omega) f_67 hG _ _ hP hS hD hfr0 hfo_68 (by omega) ls (lv_sub hl [0, 4, 5, 6, 7, 8, 9] rfl)
                      · skip
                        rw [← Int32.toInt_inj] at c_282
                        refine lv_iload hx hb dX12_aligns_124 (lv_at hl 1 rfl) ?_
                        refine lv_if_eq (tgt := 151) hx hb dX12_aligns_126 (by decide) (fun c_284 => ?_) (fun c_284 => ?_)
                        · skip
                          rw [← Int32.toInt_inj, ti_0] at c_284
                          refine lv_aload_n hx hb dX12_aligns_151 rfl (lv_at hl 4 rfl) ?_
                          refine lv_iload hx hb dX12_aligns_152 (lv_at hl 8 rfl) ?_
                          refine lv_aload_n hx hb dX12_aligns_154 rfl (lv_at hl 4 rfl) ?_
                          refine tk_getP (D := (dC, dI)) (ci := 12) (v := .ref a_2) (C := RX12) (T := TX12) (N := 56) hx hb hU inlX12 hown hK hP mo0 hfo_68 rfl 0 (by decide) (hU _ wd_169) (fun _ h9 => h9) rfl dX12_aligns_155 ?_
                          refine lv_bipush (v := 20) hx hb dX12_aligns_158 (by decide) ?_
                          refine lv_iload hx hb dX12_aligns_160 (lv_at hl 3 rfl) ?_
                          refine lv_iadd hx hb dX12_aligns_162 ?_
                          refine lv_topi (fun x_285 ex_285 => ?_)
                          have hx_285 : x_285.toInt = 20 + y_65.toInt := by rw [ex_285, ad_I (by rw [ti_20]; omega) (by rw [ti_20]; omega), ti_20]
                          have bx_285 : (20 ≤ x_285.toInt ∧ x_285.toInt ≤ 39) := by constructor <;> omega
                          refine tk_ildP hx hb hK hP 0 ma_2 hfo_69 rfl (vp_in_iff.mpr (by constructor <;> omega)) dX12_aligns_163 ?_
                          refine lv_topi (fun x_286 ex_286 => ?_)
                          have bx_286 : (0 ≤ x_286.toInt ∧ x_286.toInt ≤ 80) := by have hc9 := cl_I (i := x_285) (by omega); rw [ex_286]; exact hbg_70.2.2.2.2.2.1 _ (by omega) (by omega) (by omega)
                          refine lv_iload hx hb dX12_aligns_164 (lv_at hl 9 rfl) ?_
                          refine tk_ViP (As := [.int p4, .int x_286, .int p5]) (rest := []) (n := 3) hx hb hml hown hU hN hZ (s_X12_reads_k12 l (dC, dI) cI cL cZ cR cG cH Z kd L f_67 hG o0 mo0 ko0 p4 (by constructor <;> omega) x_286 p5) wd_950 wd_951 wd_952 wd_5 wd_953 (by decide +kernel) ⟨(show 4 + 1 ≤ 5 + (n_ + 1) by omega), (show 8 + (5 + 11) + 105 ≤ 129 + (n_ + 1) * 29 by omega)⟩ hK hP hD hS mo0 hfo_68 12 rfl rfl rfl hl.1 rfl (Nat.le_of_ble_eq_true rfl) dX12_aligns_166 ⟨Nat.le_of_ble_eq_true rfl, Nat.le_of_ble_eq_true rfl⟩ (fun x_287 f_288 H locs hw hP hD hS => ?_)
                          obtain ⟨hG, bx_287, hkc_289⟩ := hw
                          have hfo_291 : f_288 o0 = .inr (12, [.ref a_2, .ref a_3, .ref a_4, .int v_5, .ref a_6, .int v_7, .int v_8, .int v_9, .int v_10, .int v_11, .int v_12, .int v_13, .int v_14, .int v_15, .int v_16, .ref a_17, .ref a_18, .ref a_19, .ref a_20, .ref a_21, .ref a_22, .ref a_23, .ref a_24, .int v_25, .int v_26, .int v_27, .int v_28, .int v_29, .ref a_30, .int v_31, .ref a_32, .ref a_33, .int v_34, .int v_35, .ref a_36, .int v_37, .ref a_38, .ref a_39, .int v_40, .int v_41, .ref a_42, .ref a_43, .ref a_44, .int v_45, .ref a_46, .ref a_47, .ref a_48, .ref a_49, .ref a_50, .ref a_51, .ref a_52, .ref a_53, .ref a_54, .int v_55, .int v_56, .ref a_57]) := by rw [hkc_289 o0 (by rw [ko0]; decide) (by rw [ko0]; decide) (by rw [ko0]; decide) (by rw [ko0]; decide) (by rw [ko0]; decide) (by rw [ko0]; decide)]; exact hfo_68
                          have hfo_292 : f_288 a_2 = .inl (cI, 1560, .inl g_70) := by rw [hkc_289 a_2 (by rw [ka_2]; decide) (by rw [ka_2]; decide) (by rw [ka_2]; decide) (by rw [ka_2]; decide) (by rw [ka_2]; decide) (by rw [ka_2]; decide)]; exact hfo_69
                          have hfo_293 : f_288 a_23 = .inl (cI, 16, .inl g_280) := by rw [hkc_289 a_23 (by rw [ka_23]; decide) (by rw [ka_23]; decide) (by rw [ka_23]; decide) (by rw [ka_23]; decide) (by rw [ka_23]; decide) (by rw [ka_23]; decide)]; exact hfo_279
                          have hfr0 : ∀ b, kd b ≠ 579 → kd b ≠ 581 → kd b ≠ 583 → kd b ≠ 585 → kd b ≠ 587 → kd b ≠ 588 → f_288 b = f b := fun b q579 q581 q583 q585 q587 q588 => (hkc_289 b q579 q581 q583 q585 q587 q588).trans (hfr0 b q579 q581 q583 q585 q587 q588)
                          refine lv_if_eq (tgt := 223) hx hb dX12_aligns_169 (by decide) (fun c_294 => ?_) (fun c_294 => ?_)
                          · skip
                            rw [← Int32.toInt_inj, ti_0] at c_294
                            obtain ⟨x_295, ex_295⟩ : ∃ y : Int32, y_65 + 1 = y := ⟨_, rfl⟩
                            have hx_295 : x_295.toInt = y_65.toInt + 1 := by rw [← ex_295, ad_I (by rw [ti_1]; omega) (by rw [ti_1]; omega), ti_1]
                            have bx_295 : (1 ≤ x_295.toInt ∧ x_295.toInt ≤ 20) := by constructor <;> omega
                            refine lv_iinc (v := x_295) (lv' := [(6, .int x_295), (9, .int y_79), (8, .int x_78), (7, .int x_75), (0, .ref o0), (1, .int p1), (2, .int p2), (3, .int p3), (4, .int p4), (5, .int p5)]) hx hb dX12_aligns_223 hl (k := 3) rfl ex_295 (by decide) rfl (fun ls hl => ?_)
                            refine lv_goto (tgt := 32) hx hb dX12_aligns_226 (by decide) ?_
                            exact ih_hloop_64 x_295 (by constructor <;> omega) f_288 hG _ _ hP hS hD hfr0 hfo_291 (by omega) ls (lv_sub hl [0, 4, 5, 6, 7, 8, 9] rfl)
                          · skip
                            rw [← Int32.toInt_inj, ti_0] at c_294
                            refine lv_aload_n hx hb dX12_aligns_172 rfl (lv_at hl 4 rfl) ?_
                            refine lv_iload hx hb dX12_aligns_173 (lv_at hl 2 rfl) ?_
                            refine lv_if_ne (tgt := 182) hx hb dX12_aligns_175 (by decide) (fun c_296 => ?_) (fun c_296 => ?_)
                            · skip
                              rw [← Int32.toInt_inj, ti_0] at c_296
                              refine lv_iload_n hx hb dX12_aligns_182 rfl (lv_at hl 5 rfl) ?_
                              refine lv_iconst (v := 1) hx hb dX12_aligns_183 (by decide) ?_
                              refine lv_iadd hx hb dX12_aligns_184 ?_
                              refine lv_topi (fun x_297 ex_297 => ?_)
                              have hx_297 : x_297.toInt = p1.toInt + 1 := by rw [ex_297, ad_I (by rw [ti_1]; omega) (by rw [ti_1]; omega), ti_1]
                              have bx_297 : (1 ≤ x_297.toInt ∧ x_297.toInt ≤ 12) := by constructor <;> omega
                              refine lv_iload hx hb dX12_aligns_185 (lv_at hl 1 rfl) ?_
                              refine lv_if_ne (tgt := 194) hx hb dX12_aligns_187 (by decide) (fun c_298 => ?_) (fun c_298 => ?_)
                              · skip
                                rw [← Int32.toInt_inj, ti_0] at c_298
                                exfalso
                                omega
                              · skip
                                rw [← Int32.toInt_inj, ti_0] at c_298
                                refine lv_iload_n hx hb dX12_aligns_190 rfl (lv_at hl 6 rfl) ?_
                                refine lv_goto (tgt := 197) hx hb dX12_aligns_191 (by decide) ?_
                                refine lv_iload hx hb dX12_aligns_197 (lv_at hl 0 rfl) ?_
                                refine lv_if_eq (tgt := 208) hx hb dX12_aligns_199 (by decide) (fun c_299 => ?_) (fun c_299 => ?_)
                                · skip
                                  rw [← Int32.toInt_inj, ti_0] at c_299
                                  exfalso
                                  omega
                                · skip
                                  rw [← Int32.toInt_inj, ti_0] at c_299
                                  refine lv_iload_n hx hb dX12_aligns_202 rfl (lv_at hl 7 rfl) ?_
                                  refine lv_iconst (v := 1) hx hb dX12_aligns_203 (by decide) ?_
                                  refine lv_isub hx hb dX12_aligns_204 ?_
                                  refine lv_topi (fun x_300 ex_300 => ?_)
                                  have hx_300 : x_300.toInt = p3.toInt - 1 := by rw [ex_300, sb_I (by rw [ti_1]; omega) (by rw [ti_1]; omega), ti_1]
                                  have bx_300 : (0 ≤ x_300.toInt ∧ x_300.toInt ≤ 0) := by constructor <;> omega
                                  refine lv_goto (tgt := 209) hx hb dX12_aligns_205 (by decide) ?_
                                  refine lv_iload hx hb dX12_aligns_209 (lv_at hl 8 rfl) ?_
                                  refine lv_iconst (v := 1) hx hb dX12_aligns_211 (by decide) ?_
                                  refine lv_iadd hx hb dX12_aligns_212 ?_
                                  refine lv_topi (fun x_301 ex_301 => ?_)
                                  have hx_301 : x_301.toInt = p4.toInt + 1 := by rw [ex_301, ad_I (by rw [ti_1]; omega) (by rw [ti_1]; omega), ti_1]
                                  have bx_301 : (1 ≤ x_301.toInt ∧ x_301.toInt ≤ 14) := by constructor <;> omega
                                  have hclc_302 : (1 ≤ x_301.toInt ∧ x_301.toInt ≤ 13) := by constructor <;> omega
                                  refine lv_iload hx hb dX12_aligns_213 (lv_at hl 9 rfl) ?_
                                  refine tk_ViP (As := [.int x_297, .int p2, .int x_300, .int x_301, .int p5]) (rest := []) (n := 5) hx hb hml hown hU hN hZ (ih_rec f_288 hG o0 mo0 ko0 x_297 (by constructor <;> omega) p2 (by constructor <;> omega) x_300 (by constructor <;> omega) x_301 (by constructor <;> omega) p5 (by intro w23 w35 e23 e35; rw [hfo_291] at e23 e35; obtain rfl := Option.some.inj e23; obtain rfl := Option.some.inj e35; omega) (by omega) (by omega)) wd_1054 wd_1055 wd_1056 wd_5 wd_1057 (by decide +kernel) ⟨(show (5 + n_) + 1 ≤ 5 + (n_ + 1) by omega), (show 8 + (10 + 11) + (129 + n_ * 29) ≤ 129 + (n_ + 1) * 29 by omega)⟩ hK hP hD hS mo0 hfo_291 12 rfl rfl rfl hl.1 rfl (Nat.le_of_ble_eq_true rfl) dX12_aligns_215 ⟨Nat.le_of_ble_eq_true rfl, Nat.le_of_ble_eq_true rfl⟩ (fun x_303 f_304 H locs hw hP hD hS => ?_)
                                  obtain ⟨hG, bx_303, hkc_305⟩ := hw
                                  have hfo_307 : f_304 o0 = .inr (12, [.ref a_2, .ref a_3, .ref a_4, .int v_5, .ref a_6, .int v_7, .int v_8, .int v_9, .int v_10, .int v_11, .int v_12, .int v_13, .int v_14, .int v_15, .int v_16, .ref a_17, .ref a_18, .ref a_19, .ref a_20, .ref a_21, .ref a_22, .ref a_23, .ref a_24, .int v_25, .int v_26, .int v_27, .int v_28, .int v_29, .ref a_30, .int v_31, .ref a_32, .ref a_33, .int v_34, .int v_35, .ref a_36, .int v_37, .ref a_38, .ref a_39, .int v_40, .int v_41, .ref a_42, .ref a_43, .ref a_44, .int v_45, .ref a_46, .ref a_47, .ref a_48, .ref a_49, .ref a_50, .ref a_51, .ref a_52, .ref a_53, .ref a_54, .int v_55, .int v_56, .ref a_57]) := by rw [hkc_305 o0 (by rw [ko0]; decide) (by rw [ko0]; decide) (by rw [ko0]; decide) (by rw [ko0]; decide) (by rw [ko0]; decide) (by rw [ko0]; decide)]; exact hfo_291
                                  have hfo_308 : f_304 a_2 = .inl (cI, 1560, .inl g_70) := by rw [hkc_305 a_2 (by rw [ka_2]; decide) (by rw [ka_2]; decide) (by rw [ka_2]; decide) (by rw [ka_2]; decide) (by rw [ka_2]; decide) (by rw [ka_2]; decide)]; exact hfo_292
                                  have hfo_309 : f_304 a_23 = .inl (cI, 16, .inl g_280) := by rw [hkc_305 a_23 (by rw [ka_23]; decide) (by rw [ka_23]; decide) (by rw [ka_23]; decide) (by rw [ka_23]; decide) (by rw [ka_23]; decide) (by rw [ka_23]; decide)]; exact hfo_293
                                  have hfr0 : ∀ b, kd b ≠ 579 → kd b ≠ 581 → kd b ≠ 583 → kd b ≠ 585 → kd b ≠ 587 → kd b ≠ 588 → f_304 b = f b := fun b q579 q581 q583 q585 q587 q588 => (hkc_305 b q579 q581 q583 q585 q587 q588).trans (hfr0 b q579 q581 q583 q585 q587 q588)
                                  refine lv_if_eq (tgt := 223) hx hb dX12_aligns_218 (by decide) (fun c_310 => ?_) (fun c_310 => ?_)
                                  · skip
                                    rw [← Int32.toInt_inj, ti_0] at c_310
                                    obtain ⟨x_311, ex_311⟩ : ∃ y : Int32, y_65 + 1 = y := ⟨_, rfl⟩
                                    have hx_311 : x_311.toInt = y_65.toInt + 1 := by rw [← ex_311, ad_I (by rw [ti_1]; omega) (by rw [ti_1]; omega), ti_1]
                                    have bx_311 : (1 ≤ x_311.toInt ∧ x_311.toInt ≤ 20) := by constructor <;> omega
                                    refine lv_iinc (v := x_311) (lv' := [(6, .int x_311), (9, .int y_79), (8, .int x_78), (7, .int x_75), (0, .ref o0), (1, .int p1), (2, .int p2), (3, .int p3), (4, .int p4), (5, .int p5)]) hx hb dX12_aligns_223 hl (k := 3) rfl ex_311 (by decide) rfl (fun ls hl => ?_)
                                    refine lv_goto (tgt := 32) hx hb dX12_aligns_226 (by decide) ?_
                                    exact ih_hloop_64 x_311 (by constructor <;> omega) f_304 hG _ _ hP hS hD hfr0 hfo_307 (by omega) ls (lv_sub hl [0, 4, 5, 6, 7, 8, 9] rfl)
                                  · skip
                                    rw [← Int32.toInt_inj, ti_0] at c_310
                                    refine lv_iconst (v := 1) hx hb dX12_aligns_221 (by decide) ?_
                                    exact W.zret (v := 1) (ty := .boolean) hx hb hr rfl (fun t ht hW => ⟨⟨1, f_304, rfl, ⟨hG, (by decide), hfr0⟩, by rw [ht]; exact hP, va_K.moved hW.alike hK, pl_in hD⟩, hS.F ht⟩) hS.2.2 dX12_aligns_222
                            · skip
                              rw [← Int32.toInt_inj, ti_0] at c_296
                              exfalso
                              omega
                        · skip
                          rw [← Int32.toInt_inj, ti_0] at c_284
                          refine lv_iload_n hx hb dX12_aligns_129 rfl (lv_at hl 6 rfl) ?_
                          refine lv_aload_n hx hb dX12_aligns_130 rfl (lv_at hl 4 rfl) ?_
                          refine tk_getP (D := (dC, dI)) (ci := 12) (v := .int v_37) (C := RX12) (T := TX12) (N := 56) hx hb hU inlX12 hown hK hP mo0 hfo_68 rfl 35 (by decide) (hU _ wd_1049) (fun _ h9 => h9) rfl dX12_aligns_131 ?_
                          refine lv_icmp_eq (tgt := 223) hx hb dX12_aligns_134 (by decide) (fun c_312 => ?_) (fun c_312 => ?_)
                          · skip
                            rw [← Int32.toInt_inj] at c_312
                            obtain ⟨x_313, ex_313⟩ : ∃ y : Int32, y_65 + 1 = y := ⟨_, rfl⟩
                            have hx_313 : x_313.toInt = y_65.toInt + 1 := by rw [← ex_313, ad_I (by rw [ti_1]; omega) (by rw [ti_1]; omega), ti_1]
                            have bx_313 : (1 ≤ x_313.toInt ∧ x_313.toInt ≤ 20) := by constructor <;> omega
                            refine lv_iinc (v := x_313) (lv' := [(6, .int x_313), (9, .int y_79), (8, .int x_78), (7, .int x_75), (0, .ref o0), (1, .int p1), (2, .int p2), (3, .int p3), (4, .int p4), (5, .int p5)]) hx hb dX12_aligns_223 hl (k := 3) rfl ex_313 (by decide) rfl (fun ls hl => ?_)
                            refine lv_goto (tgt := 32) hx hb dX12_aligns_226 (by decide) ?_
                            exact ih_hloop_64 x_313 (by constructor <;> omega) f_67 hG _ _ hP hS hD hfr0 hfo_68 (by omega) ls (lv_sub hl [0, 4, 5, 6, 7, 8, 9] rfl)
                          · skip
                            rw [← Int32.toInt_inj] at c_312
                            have hclc_314 : (0 ≤ p2.toInt ∧ p2.toInt ≤ 7) := by constructor <;> omega
                            refine lv_aload_n hx hb dX12_aligns_137 rfl (lv_at hl 4 rfl) ?_
                            refine tk_getP (D := (dC, dI)) (ci := 12) (v := .ref a_36) (C := RX12) (T := TX12) (N := 56) hx hb hU inlX12 hown hK hP mo0 hfo_68 rfl 34 (by decide) (hU _ wd_186) (fun _ h9 => h9) rfl dX12_aligns_138 ?_
                            refine lv_iload_n hx hb dX12_aligns_141 rfl (lv_at hl 6 rfl) ?_
                            obtain ⟨g_316, hfo_315, hbg_316⟩ := un_594 (hG _ ma_36) ka_36
                            refine tk_ildP hx hb hK hP 0 ma_36 hfo_315 rfl (vp_in_iff.mpr (by constructor <;> omega)) dX12_aligns_142 ?_
                            refine lv_topi (fun x_317 ex_317 => ?_)
                            have bx_317 : (0 ≤ x_317.toInt ∧ x_317.toInt ≤ 8) := by rw [ex_317]; exact hbg_316 _
                            refine lv_iload hx hb dX12_aligns_143 (lv_at hl 1 rfl) ?_
                            refine lv_icmp_eq (tgt := 151) hx hb dX12_aligns_145 (by decide) (fun c_318 => ?_) (fun c_318 => ?_)
                            · skip
                              rw [← Int32.toInt_inj] at c_318
                              refine lv_aload_n hx hb dX12_aligns_151 rfl (lv_at hl 4 rfl) ?_
                              refine lv_iload hx hb dX12_aligns_152 (lv_at hl 8 rfl) ?_
                              refine lv_aload_n hx hb dX12_aligns_154 rfl (lv_at hl 4 rfl) ?_
                              refine tk_getP (D := (dC, dI)) (ci := 12) (v := .ref a_2) (C := RX12) (T := TX12) (N := 56) hx hb hU inlX12 hown hK hP mo0 hfo_68 rfl 0 (by decide) (hU _ wd_169) (fun _ h9 => h9) rfl dX12_aligns_155 ?_
                              refine lv_bipush (v := 20) hx hb dX12_aligns_158 (by decide) ?_
                              refine lv_iload hx hb dX12_aligns_160 (lv_at hl 3 rfl) ?_
                              refine lv_iadd hx hb dX12_aligns_162 ?_
                              refine lv_topi (fun x_319 ex_319 => ?_)
                              have hx_319 : x_319.toInt = 20 + y_65.toInt := by rw [ex_319, ad_I (by rw [ti_20]; omega) (by rw [ti_20]; omega), ti_20]
                              have bx_319 : (20 ≤ x_319.toInt ∧ x_319.toInt ≤ 39) := by constructor <;> omega
                              refine tk_ildP hx hb hK hP 0 ma_2 hfo_69 rfl (vp_in_iff.mpr (by constructor <;> omega)) dX12_aligns_163 ?_
                              refine lv_topi (fun x_320 ex_320 => ?_)
                              have bx_320 : (0 ≤ x_320.toInt ∧ x_320.toInt ≤ 80) := by have hc9 := cl_I (i := x_319) (by omega); rw [ex_320]; exact hbg_70.2.2.2.2.2.1 _ (by omega) (by omega) (by omega)
                              refine lv_iload hx hb dX12_aligns_164 (lv_at hl 9 rfl) ?_
                              refine tk_ViP (As := [.int p4, .int x_320, .int p5]) (rest := []) (n := 3) hx hb hml hown hU hN hZ (s_X12_reads_k12 l (dC, dI) cI cL cZ cR cG cH Z kd L f_67 hG o0 mo0 ko0 p4 (by constructor <;> omega) x_320 p5) wd_950 wd_951 wd_952 wd_5 wd_953 (by decide +kernel) ⟨(show 4 + 1 ≤ 5 + (n_ + 1) by omega), (show 8 + (5 + 11) + 105 ≤ 129 + (n_ + 1) * 29 by omega)⟩ hK hP hD hS mo0 hfo_68 12 rfl rfl rfl hl.1 rfl (Nat.le_of_ble_eq_true rfl) dX12_aligns_166 ⟨Nat.le_of_ble_eq_true rfl, Nat.le_of_ble_eq_true rfl⟩ (fun x_321 f_322 H locs hw hP hD hS => ?_)
                              obtain ⟨hG, bx_321, hkc_323⟩ := hw
                              have hfo_325 : f_322 o0 = .inr (12, [.ref a_2, .ref a_3, .ref a_4, .int v_5, .ref a_6, .int v_7, .int v_8, .int v_9, .int v_10, .int v_11, .int v_12, .int v_13, .int v_14, .int v_15, .int v_16, .ref a_17, .ref a_18, .ref a_19, .ref a_20, .ref a_21, .ref a_22, .ref a_23, .ref a_24, .int v_25, .int v_26, .int v_27, .int v_28, .int v_29, .ref a_30, .int v_31, .ref a_32, .ref a_33, .int v_34, .int v_35, .ref a_36, .int v_37, .ref a_38, .ref a_39, .int v_40, .int v_41, .ref a_42, .ref a_43, .ref a_44, .int v_45, .ref a_46, .ref a_47, .ref a_48, .ref a_49, .ref a_50, .ref a_51, .ref a_52, .ref a_53, .ref a_54, .int v_55, .int v_56, .ref a_57]) := by rw [hkc_323 o0 (by rw [ko0]; decide) (by rw [ko0]; decide) (by rw [ko0]; decide) (by rw [ko0]; decide) (by rw [ko0]; decide) (by rw [ko0]; decide)]; exact hfo_68
                              have hfo_326 : f_322 a_2 = .inl (cI, 1560, .inl g_70) := by rw [hkc_323 a_2 (by rw [ka_2]; decide) (by rw [ka_2]; decide) (by rw [ka_2]; decide) (by rw [ka_2]; decide) (by rw [ka_2]; decide) (by rw [ka_2]; decide)]; exact hfo_69
                              have hfo_327 : f_322 a_23 = .inl (cI, 16, .inl g_280) := by rw [hkc_323 a_23 (by rw [ka_23]; decide) (by rw [ka_23]; decide) (by rw [ka_23]; decide) (by rw [ka_23]; decide) (by rw [ka_23]; decide) (by rw [ka_23]; decide)]; exact hfo_279
                              have hfo_328 : f_322 a_36 = .inl (cI, 16, .inl g_316) := by rw [hkc_323 a_36 (by rw [ka_36]; decide) (by rw [ka_36]; decide) (by rw [ka_36]; decide) (by rw [ka_36]; decide) (by rw [ka_36]; decide) (by rw [ka_36]; decide)]; exact hfo_315
                              have hfr0 : ∀ b, kd b ≠ 579 → kd b ≠ 581 → kd b ≠ 583 → kd b ≠ 585 → kd b ≠ 587 → kd b ≠ 588 → f_322 b = f b := fun b q579 q581 q583 q585 q587 q588 => (hkc_323 b q579 q581 q583 q585 q587 q588).trans (hfr0 b q579 q581 q583 q585 q587 q588)
                              refine lv_if_eq (tgt := 223) hx hb dX12_aligns_169 (by decide) (fun c_329 => ?_) (fun c_329 => ?_)
                              · skip
                                rw [← Int32.toInt_inj, ti_0] at c_329
                                obtain ⟨x_330, ex_330⟩ : ∃ y : Int32, y_65 + 1 = y := ⟨_, rfl⟩
                                have hx_330 : x_330.toInt = y_65.toInt + 1 := by rw [← ex_330, ad_I (by rw [ti_1]; omega) (by rw [ti_1]; omega), ti_1]
                                have bx_330 : (1 ≤ x_330.toInt ∧ x_330.toInt ≤ 20) := by constructor <;> omega
                                refine lv_iinc (v := x_330) (lv' := [(6, .int x_330), (9, .int y_79), (8, .int x_78), (7, .int x_75), (0, .ref o0), (1, .int p1), (2, .int p2), (3, .int p3), (4, .int p4), (5, .int p5)]) hx hb dX12_aligns_223 hl (k := 3) rfl ex_330 (by decide) rfl (fun ls hl => ?_)
                                refine lv_goto (tgt := 32) hx hb dX12_aligns_226 (by decide) ?_
                                exact ih_hloop_64 x_330 (by constructor <;> omega) f_322 hG _ _ hP hS hD hfr0 hfo_325 (by omega) ls (lv_sub hl [0, 4, 5, 6, 7, 8, 9] rfl)
                              · skip
                                rw [← Int32.toInt_inj, ti_0] at c_329
                                refine lv_aload_n hx hb dX12_aligns_172 rfl (lv_at hl 4 rfl) ?_
                                refine lv_iload hx hb dX12_aligns_173 (lv_at hl 2 rfl) ?_
                                refine lv_if_ne (tgt := 182) hx hb dX12_aligns_175 (by decide) (fun c_331 => ?_) (fun c_331 => ?_)
                                · skip
                                  rw [← Int32.toInt_inj, ti_0] at c_331
                                  refine lv_iload_n hx hb dX12_aligns_182 rfl (lv_at hl 5 rfl) ?_
                                  refine lv_iconst (v := 1) hx hb dX12_aligns_183 (by decide) ?_
                                  refine lv_iadd hx hb dX12_aligns_184 ?_
                                  refine lv_topi (fun x_332 ex_332 => ?_)
                                  have hx_332 : x_332.toInt = p1.toInt + 1 := by rw [ex_332, ad_I (by rw [ti_1]; omega) (by rw [ti_1]; omega), ti_1]
                                  have bx_332 : (1 ≤ x_332.toInt ∧ x_332.toInt ≤ 12) := by constructor <;> omega
                                  refine lv_iload hx hb dX12_aligns_185 (lv_at hl 1 rfl) ?_
                                  refine lv_if_ne (tgt := 194) hx hb dX12_aligns_187 (by decide) (fun c_333 => ?_) (fun c_333 => ?_)
                                  · skip
                                    rw [← Int32.toInt_inj, ti_0] at c_333
                                    refine lv_iload_n hx hb dX12_aligns_194 rfl (lv_at hl 6 rfl) ?_
                                    refine lv_iconst (v := 1) hx hb dX12_aligns_195 (by decide) ?_
                                    refine lv_iadd hx hb dX12_aligns_196 ?_
                                    refine lv_topi (fun x_334 ex_334 => ?_)
                                    have hx_334 : x_334.toInt = p2.toInt + 1 := by rw [ex_334, ad_I (by rw [ti_1]; omega) (by rw [ti_1]; omega), ti_1]
                                    have bx_334 : (1 ≤ x_334.toInt ∧ x_334.toInt ≤ 8) := by constructor <;> omega
                                    refine lv_iload hx hb dX12_aligns_197 (lv_at hl 0 rfl) ?_
                                    refine lv_if_eq (tgt := 208) hx hb dX12_aligns_199 (by decide) (fun c_335 => ?_) (fun c_335 => ?_)
                                    · skip
                                      rw [← Int32.toInt_inj, ti_0] at c_335
                                      exfalso
                                      omega
                                    · skip
                                      rw [← Int32.toInt_inj, ti_0] at c_335
                                      refine lv_iload_n hx hb dX12_aligns_202 rfl (lv_at hl 7 rfl) ?_
                                      refine lv_iconst (v := 1) hx hb dX12_aligns_203 (by decide) ?_
                                      refine lv_isub hx hb dX12_aligns_204 ?_
                                      refine lv_topi (fun x_336 ex_336 => ?_)
                                      have hx_336 : x_336.toInt = p3.toInt - 1 := by rw [ex_336, sb_I (by rw [ti_1]; omega) (by rw [ti_1]; omega), ti_1]
                                      have bx_336 : (0 ≤ x_336.toInt ∧ x_336.toInt ≤ 0) := by constructor <;> omega
                                      refine lv_goto (tgt := 209) hx hb dX12_aligns_205 (by decide) ?_
                                      refine lv_iload hx hb dX12_aligns_209 (lv_at hl 8 rfl) ?_
                                      refine lv_iconst (v := 1) hx hb dX12_aligns_211 (by decide) ?_
                                      refine lv_iadd hx hb dX12_aligns_212 ?_
                                      refine lv_topi (fun x_337 ex_337 => ?_)
                                      have hx_337 : x_337.toInt = p4.toInt + 1 := by rw [ex_337, ad_I (by rw [ti_1]; omega) (by rw [ti_1]; omega), ti_1]
                                      have bx_337 : (1 ≤ x_337.toInt ∧ x_337.toInt ≤ 14) := by constructor <;> omega
                                      have hclc_338 : (1 ≤ x_337.toInt ∧ x_337.toInt ≤ 13) := by constructor <;> omega
                                      refine lv_iload hx hb dX12_aligns_213 (lv_at hl 9 rfl) ?_
                                      refine tk_ViP (As := [.int x_332, .int x_334, .int x_336, .int x_337, .int p5]) (rest := []) (n := 5) hx hb hml hown hU hN hZ (ih_rec f_322 hG o0 mo0 ko0 x_332 (by constructor <;> omega) x_334 (by constructor <;> omega) x_336 (by constructor <;> omega) x_337 (by constructor <;> omega) p5 (by intro w23 w35 e23 e35; rw [hfo_325] at e23 e35; obtain rfl := Option.some.inj e23; obtain rfl := Option.some.inj e35; omega) (by omega) (by omega)) wd_1054 wd_1055 wd_1056 wd_5 wd_1057 (by decide +kernel) ⟨(show (5 + n_) + 1 ≤ 5 + (n_ + 1) by omega), (show 8 + (10 + 11) + (129 + n_ * 29) ≤ 129 + (n_ + 1) * 29 by omega)⟩ hK hP hD hS mo0 hfo_325 12 rfl rfl rfl hl.1 rfl (Nat.le_of_ble_eq_true rfl) dX12_aligns_215 ⟨Nat.le_of_ble_eq_true rfl, Nat.le_of_ble_eq_true rfl⟩ (fun x_339 f_340 H locs hw hP hD hS => ?_)
                                      obtain ⟨hG, bx_339, hkc_341⟩ := hw
                                      have hfo_343 : f_340 o0 = .inr (12, [.ref a_2, .ref a_3, .ref a_4, .int v_5, .ref a_6, .int v_7, .int v_8, .int v_9, .int v_10, .int v_11, .int v_12, .int v_13, .int v_14, .int v_15, .int v_16, .ref a_17, .ref a_18, .ref a_19, .ref a_20, .ref a_21, .ref a_22, .ref a_23, .ref a_24, .int v_25, .int v_26, .int v_27, .int v_28, .int v_29, .ref a_30, .int v_31, .ref a_32, .ref a_33, .int v_34, .int v_35, .ref a_36, .int v_37, .ref a_38, .ref a_39, .int v_40, .int v_41, .ref a_42, .ref a_43, .ref a_44, .int v_45, .ref a_46, .ref a_47, .ref a_48, .ref a_49, .ref a_50, .ref a_51, .ref a_52, .ref a_53, .ref a_54, .int v_55, .int v_56, .ref a_57]) := by rw [hkc_341 o0 (by rw [ko0]; decide) (by rw [ko0]; decide) (by rw [ko0]; decide) (by rw [ko0]; decide) (by rw [ko0]; decide) (by rw [ko0]; decide)]; exact hfo_325
                                      have hfo_344 : f_340 a_2 = .inl (cI, 1560, .inl g_70) := by rw [hkc_341 a_2 (by rw [ka_2]; decide) (by rw [ka_2]; decide) (by rw [ka_2]; decide) (by rw [ka_2]; decide) (by rw [ka_2]; decide) (by rw [ka_2]; decide)]; exact hfo_326
                                      have hfo_345 : f_340 a_23 = .inl (cI, 16, .inl g_280) := by rw [hkc_341 a_23 (by rw [ka_23]; decide) (by rw [ka_23]; decide) (by rw [ka_23]; decide) (by rw [ka_23]; decide) (by rw [ka_23]; decide) (by rw [ka_23]; decide)]; exact hfo_327
                                      have hfo_346 : f_340 a_36 = .inl (cI, 16, .inl g_316) := by rw [hkc_341 a_36 (by rw [ka_36]; decide) (by rw [ka_36]; decide) (by rw [ka_36]; decide) (by rw [ka_36]; decide) (by rw [ka_36]; decide) (by rw [ka_36]; decide)]; exact hfo_328
                                      have hfr0 : ∀ b, kd b ≠ 579 → kd b ≠ 581 → kd b ≠ 583 → kd b ≠ 585 → kd b ≠ 587 → kd b ≠ 588 → f_340 b = f b := fun b q579 q581 q583 q585 q587 q588 => (hkc_341 b q579 q581 q583 q585 q587 q588).trans (hfr0 b q579 q581 q583 q585 q587 q588)
                                      refine lv_if_eq (tgt := 223) hx hb dX12_aligns_218 (by decide) (fun c_347 => ?_) (fun c_347 => ?_)
                                      · skip
                                        rw [← Int32.toInt_inj, ti_0] at c_347
                                        obtain ⟨x_348, ex_348⟩ : ∃ y : Int32, y_65 + 1 = y := ⟨_, rfl⟩
                                        have hx_348 : x_348.toInt = y_65.toInt + 1 := by rw [← ex_348, ad_I (by rw [ti_1]; omega) (by rw [ti_1]; omega), ti_1]
                                        have bx_348 : (1 ≤ x_348.toInt ∧ x_348.toInt ≤ 20) := by constructor <;> omega
                                        refine lv_iinc (v := x_348) (lv' := [(6, .int x_348), (9, .int y_79), (8, .int x_78), (7, .int x_75), (0, .ref o0), (1, .int p1), (2, .int p2), (3, .int p3), (4, .int p4), (5, .int p5)]) hx hb dX12_aligns_223 hl (k := 3) rfl ex_348 (by decide) rfl (fun ls hl => ?_)
                                        refine lv_goto (tgt := 32) hx hb dX12_aligns_226 (by decide) ?_
                                        exact ih_hloop_64 x_348 (by constructor <;> omega) f_340 hG _ _ hP hS hD hfr0 hfo_343 (by omega) ls (lv_sub hl [0, 4, 5, 6, 7, 8, 9] rfl)
                                      · skip
                                        rw [← Int32.toInt_inj, ti_0] at c_347
                                        refine lv_iconst (v := 1) hx hb dX12_aligns_221 (by decide) ?_
                                        exact W.zret (v := 1) (ty := .boolean) hx hb hr rfl (fun t ht hW => ⟨⟨1, f_340, rfl, ⟨hG, (by decide), hfr0⟩, by rw [ht]; exact hP, va_K.moved hW.alike hK, pl_in hD⟩, hS.F ht⟩) hS.2.2 dX12_aligns_222
                                  · skip
                                    rw [← Int32.toInt_inj, ti_0] at c_333
                                    exfalso
                                    omega
                                · skip
                                  rw [← Int32.toInt_inj, ti_0] at c_331
                                  exfalso
                                  omega
                            · skip
                              rw [← Int32.toInt_inj] at c_318
                              refine lv_goto (tgt := 223) hx hb dX12_aligns_148 (by decide) ?_
                              obtain ⟨x_349, ex_349⟩ : ∃ y : Int32, y_65 + 1 = y := ⟨_, rfl⟩
                              have hx_349 : x_349.toInt = y_65.toInt + 1 := by rw [← ex_349, ad_I (by rw [ti_1]; omega) (by rw [ti_1]; omega), ti_1]
                              have bx_349 : (1 ≤ x_349.toInt ∧ x_349.toInt ≤ 20) := by constructor <;> omega
                              refine lv_iinc (v := x_349) (lv' := [(6, .int x_349), (9, .int y_79), (8, .int x_78), (7, .int x_75), (0, .ref o0), (1, .int p1), (2, .int p2), (3, .int p3), (4, .int p4), (5, .int p5)]) hx hb dX12_aligns_223 hl (k := 3) rfl ex_349 (by decide) rfl (fun ls hl => ?_)
                              refine lv_goto (tgt := 32) hx hb dX12_aligns_226 (by decide) ?_
                              exact ih_hloop_64 x_349 (by constructor <;> omega) f_67 hG _ _ hP hS hD hfr0 hfo_68 (by omega) ls (lv_sub hl [0, 4, 5, 6, 7, 8, 9] rfl)
            refine lv_if_eq (tgt := 84) hx hb dX12_aligns_76 (by decide) (fun c_350 => ?_) (fun c_350 => ?_)
            · skip
              rw [← Int32.toInt_inj, ti_0] at c_350
              refine lv_iconst (v := 1) hx hb dX12_aligns_84 (by decide) ?_
              refine lv_goto (tgt := 89) hx hb dX12_aligns_85 (by decide) ?_
              exact hcut_80 1 (by decide) (by (try rw [ti_1]) <;> omega) ls (lv_sub hl [0, 1, 2, 3, 4, 5, 6, 7, 8] rfl)
            · skip
              rw [← Int32.toInt_inj, ti_0] at c_350
              refine lv_iload hx hb dX12_aligns_79 (lv_at hl 0 rfl) ?_
              refine lv_if_ne (tgt := 88) hx hb dX12_aligns_81 (by decide) (fun c_351 => ?_) (fun c_351 => ?_)
              · skip
                rw [← Int32.toInt_inj, ti_0] at c_351
                refine lv_iconst (v := 0) hx hb dX12_aligns_88 (by decide) ?_
                exact hcut_80 0 (by decide) (by (try rw [ti_0]) <;> omega) ls (lv_sub hl [0, 1, 2, 3, 4, 5, 6, 7, 8] rfl)
              · skip
                rw [← Int32.toInt_inj, ti_0] at c_351
                refine lv_iconst (v := 1) hx hb dX12_aligns_84 (by decide) ?_
                refine lv_goto (tgt := 89) hx hb dX12_aligns_85 (by decide) ?_
                exact hcut_80 1 (by decide) (by (try rw [ti_1]) <;> omega) ls (lv_sub hl [0, 1, 2, 3, 4, 5, 6, 7, 8] rfl)
      exact hloop_64 21 0 (by decide) f hG _ _ hP hS hD hfr0 hfo_1 (by (try rw [ti_0]) <;> omega) ls hl
    · skip
      rw [← Int32.toInt_inj] at c_58
      refine lv_iload_n hx hb dX12_aligns_8 rfl (lv_at hl 2 rfl) ?_
      refine lv_aload_n hx hb dX12_aligns_9 rfl (lv_at hl 0 rfl) ?_
      refine tk_getP (D := (dC, dI)) (ci := 12) (v := .int v_37) (C := RX12) (T := TX12) (N := 56) hx hb hU inlX12 hown hK hP mo0 hfo_1 rfl 35 (by decide) (hU _ wd_1049) (fun _ h9 => h9) rfl dX12_aligns_10 ?_
      refine lv_icmp_ne (tgt := 29) hx hb dX12_aligns_13 (by decide) (fun c_352 => ?_) (fun c_352 => ?_)
      · skip
        rw [← Int32.toInt_inj] at c_352
        refine lv_iconst (v := 0) hx hb dX12_aligns_29 (by decide) ?_
        refine lv_istore (lv' := [(6, .int 0), (0, .ref o0), (1, .int p1), (2, .int p2), (3, .int p3), (4, .int p4), (5, .int p5)]) hx hb dX12_aligns_30 hl (by decide) rfl (fun ls hl => ?_)
        have hloop_358 : ∀ (n : Nat), ∀ (y_359 : Int32), (0 ≤ y_359.toInt ∧ y_359.toInt ≤ 20) → ∀ (f_361 : Nat → va_E), GI (okc cI cL cZ cR cG cH L kd) kd L f_361 → ∀ (H : Heap) (locs : List Loc), va_P (dC, dI) vwCl (va_pl L f_361) H → va_S (fun q => q ∈ L) s.heap H locs → va_D (fun q => q ∈ L) (va_pl L f_361) → (∀ b, kd b ≠ 579 → kd b ≠ 581 → kd b ≠ 583 → kd b ≠ 585 → kd b ≠ 587 → kd b ≠ 588 → f_361 b = f b) → (f_361 o0 = .inr (12, [.ref a_2, .ref a_3, .ref a_4, .int v_5, .ref a_6, .int v_7, .int v_8, .int v_9, .int v_10, .int v_11, .int v_12, .int v_13, .int v_14, .int v_15, .int v_16, .ref a_17, .ref a_18, .ref a_19, .ref a_20, .ref a_21, .ref a_22, .ref a_23, .ref a_24, .int v_25, .int v_26, .int v_27, .int v_28, .int v_29, .ref a_30, .int v_31, .ref a_32, .ref a_33, .int v_34, .int v_35, .ref a_36, .int v_37, .ref a_38, .ref a_39, .int v_40, .int v_41, .ref a_42, .ref a_43, .ref a_44, .int v_45, .ref a_46, .ref a_47, .ref a_48, .ref a_49, .ref a_50, .ref a_51, .ref a_52, .ref a_53, .ref a_54, .int v_55, .int v_56, .ref a_57])) → 20 - y_359.toInt < (n : Int) → ∀ (ls : Array Slot), lv_has ls 10 [(6, .int y_359), (0, .ref o0), (1, .int p1), (2, .int p2), (3, .int p3), (4, .int p4), (5, .int p5)] → W p l e (headSpec (wU yX12_aligns cX12_aligns 10 (some .boolean)) { frames := 5 + (n_ + 1), cells := 0, slots := 0, locals := 129 + (n_ + 1) * 29 }).room s m [.ref o0, .int p1, .int p2, .int p3, .int p4, .int p5].toArray below meth c H locs 0 0 (MQ below (va_Qi (fun (r : Int32) (f9 : Nat → va_E) => GI (okc cI cL cZ cR cG cH L kd) kd L f9 ∧ (0 ≤ r.toInt ∧ r.toInt ≤ 1) ∧ (∀ b, kd b ≠ 579 → kd b ≠ 581 → kd b ≠ 583 → kd b ≠ 585 → kd b ≠ 587 → kd b ≠ 588 → f9 b = f b)) (qP (dC, dI) cI cL cZ cR cG cH L) (fun q => q ∈ L)) [.ref o0, .int p1, .int p2, .int p3, .int p4, .int p5].toArray s 0 0 (fun q => q ∈ L)) (F0 m 32 ls []) := by
          intro n
          induction n with
          | zero => intro y_359 by_359 f_361 hG H locs hP hS hD hfr0 hfo_362 hmuhloop_358 ls hl; exfalso; omega
          | succ n ih_hloop_358 =>
            intro y_359 by_359 f_361 hG H locs hP hS hD hfr0 hfo_362 hmuhloop_358 ls hl
            refine lv_iload hx hb dX12_aligns_32 (lv_at hl 0 rfl) ?_
            refine lv_aload_n hx hb dX12_aligns_34 rfl (lv_at hl 1 rfl) ?_
            refine tk_getP (D := (dC, dI)) (ci := 12) (v := .ref a_2) (C := RX12) (T := TX12) (N := 56) hx hb hU inlX12 hown hK hP mo0 hfo_362 rfl 0 (by decide) (hU _ wd_169) (fun _ h9 => h9) rfl dX12_aligns_35 ?_
            refine lv_bipush (v := 16) hx hb dX12_aligns_38 (by decide) ?_
            obtain ⟨g_364, hfo_363, hbg_364⟩ := un_575 (hG _ ma_2) ka_2
            refine tk_ildP hx hb hK hP 0 ma_2 hfo_363 rfl (vp_in_nI (n := 16) (by decide) (by decide)) dX12_aligns_40 ?_
            refine lv_topi (fun x_365 ex_365 => ?_)
            have bx_365 : (0 ≤ x_365.toInt ∧ x_365.toInt ≤ 20) := by rw [ex_365]; exact hbg_364.2.1 _ (by decide) (by decide) (by decide)
            refine lv_icmp_ge (tgt := 229) hx hb dX12_aligns_41 (by decide) (fun c_366 => ?_) (fun c_366 => ?_)
            · skip
              rw [Int32.le_iff_toInt_le] at c_366
              refine lv_iconst (v := 0) hx hb dX12_aligns_229 (by decide) ?_
              exact W.zret (v := 0) (ty := .boolean) hx hb hr rfl (fun t ht hW => ⟨⟨0, f_361, rfl, ⟨hG, (by decide), hfr0⟩, by rw [ht]; exact hP, va_K.moved hW.alike hK, pl_in hD⟩, hS.F ht⟩) hS.2.2 dX12_aligns_230
            · skip
              rw [Int32.le_iff_toInt_le] at c_366
              refine lv_aload_n hx hb dX12_aligns_44 rfl (lv_at hl 1 rfl) ?_
              refine tk_getP (D := (dC, dI)) (ci := 12) (v := .ref a_2) (C := RX12) (T := TX12) (N := 56) hx hb hU inlX12 hown hK hP mo0 hfo_362 rfl 0 (by decide) (hU _ wd_169) (fun _ h9 => h9) rfl dX12_aligns_45 ?_
              refine lv_bipush (v := 20) hx hb dX12_aligns_48 (by decide) ?_
              refine lv_iload hx hb dX12_aligns_50 (lv_at hl 0 rfl) ?_
              refine lv_iadd hx hb dX12_aligns_52 ?_
              refine lv_topi (fun x_367 ex_367 => ?_)
              have hx_367 : x_367.toInt = 20 + y_359.toInt := by rw [ex_367, ad_I (by rw [ti_20]; omega) (by rw [ti_20]; omega), ti_20]
              have bx_367 : (20 ≤ x_367.toInt ∧ x_367.toInt ≤ 39) := by constructor <;> omega
              refine tk_ildP hx hb hK hP 0 ma_2 hfo_363 rfl (vp_in_iff.mpr (by constructor <;> omega)) dX12_aligns_53 ?_
              refine lv_topi (fun x_368 ex_368 => ?_)
              have bx_368 : (0 ≤ x_368.toInt ∧ x_368.toInt ≤ 80) := by have hc9 := cl_I (i := x_367) (by omega); rw [ex_368]; exact hbg_364.2.2.2.2.2.1 _ (by omega) (by omega) (by omega)
              refine lv_bipush (v := 9) hx hb dX12_aligns_54 (by decide) ?_
              refine lv_idiv hx hb dX12_aligns_56 (by decide) ?_
              refine lv_topi (fun x_369 ex_369 => ?_)
              have hx_369 : x_369.toInt = x_368.toInt / 9 := by rw [ex_369, dv_I (by omega) (by rw [ti_9]; omega), ti_9]
              have bx_369 : (0 ≤ x_369.toInt ∧ x_369.toInt ≤ 8) := by constructor <;> omega
              refine lv_istore (lv' := [(7, .int x_369), (6, .int y_359), (0, .ref o0), (1, .int p1), (2, .int p2), (3, .int p3), (4, .int p4), (5, .int p5)]) hx hb dX12_aligns_57 hl (by decide) rfl (fun ls hl => ?_)
              refine lv_aload_n hx hb dX12_aligns_59 rfl (lv_at hl 2 rfl) ?_
              refine tk_getP (D := (dC, dI)) (ci := 12) (v := .ref a_2) (C := RX12) (T := TX12) (N := 56) hx hb hU inlX12 hown hK hP mo0 hfo_362 rfl 0 (by decide) (hU _ wd_169) (fun _ h9 => h9) rfl dX12_aligns_60 ?_
              refine lv_bipush (v := 20) hx hb dX12_aligns_63 (by decide) ?_
              refine lv_iload hx hb dX12_aligns_65 (lv_at hl 1 rfl) ?_
              refine lv_iadd hx hb dX12_aligns_67 ?_
              refine lv_topi (fun x_370 ex_370 => ?_)
              have hx_370 : x_370.toInt = 20 + y_359.toInt := by rw [ex_370, ad_I (by rw [ti_20]; omega) (by rw [ti_20]; omega), ti_20]
              have bx_370 : (20 ≤ x_370.toInt ∧ x_370.toInt ≤ 39) := by constructor <;> omega
              refine tk_ildP hx hb hK hP 0 ma_2 hfo_363 rfl (vp_in_iff.mpr (by constructor <;> omega)) dX12_aligns_68 ?_
              refine lv_topi (fun x_371 ex_371 => ?_)
              have bx_371 : (0 ≤ x_371.toInt ∧ x_371.toInt ≤ 80) := by have hc9 := cl_I (i := x_370) (by omega); rw [ex_371]; exact hbg_364.2.2.2.2.2.1 _ (by omega) (by omega) (by omega)
              refine lv_bipush (v := 9) hx hb dX12_aligns_69 (by decide) ?_
              refine lv_irem hx hb dX12_aligns_71 (by decide) ?_
              refine lv_topi (fun x_372 ex_372 => ?_)
              have hx_372 : x_372.toInt = x_371.toInt % 9 := by rw [ex_372, rm_I (by omega) (by rw [ti_9]; omega), ti_9]
              have bx_372 : (0 ≤ x_372.toInt ∧ x_372.toInt ≤ 8) := by constructor <;> omega
              refine lv_istore (lv' := [(8, .int x_372), (7, .int x_369), (6, .int y_359), (0, .ref o0), (1, .int p1), (2, .int p2), (3, .int p3), (4, .int p4), (5, .int p5)]) hx hb dX12_aligns_72 hl (by decide) rfl (fun ls hl => ?_)
              refine lv_iload hx hb dX12_aligns_74 (lv_at hl 1 rfl) ?_
              have hcut_374 : ∀ (y_373 : Int32), (0 ≤ y_373.toInt ∧ y_373.toInt ≤ 1) → (y_373.toInt = 1 ∨ (y_373.toInt = 0 ∧ x_369.toInt ≠ 0 ∧ x_372.toInt ≠ 0)) → ∀ (ls : Array Slot), lv_has ls 10 [(8, .int x_372), (7, .int x_369), (6, .int y_359), (0, .ref o0), (1, .int p1), (2, .int p2), (3, .int p3), (4, .int p4), (5, .int p5)] → W p l e (headSpec (wU yX12_aligns cX12_aligns 10 (some .boolean)) { frames := 5 + (n_ + 1), cells := 0, slots := 0, locals := 129 + (n_ + 1) * 29 }).room s m [.ref o0, .int p1, .int p2, .int p3, .int p4, .int p5].toArray below meth c H locs 0 0 (MQ below (va_Qi (fun (r : Int32) (f9 : Nat → va_E) => GI (okc cI cL cZ cR cG cH L kd) kd L f9 ∧ (0 ≤ r.toInt ∧ r.toInt ≤ 1) ∧ (∀ b, kd b ≠ 579 → kd b ≠ 581 → kd b ≠ 583 → kd b ≠ 585 → kd b ≠ 587 → kd b ≠ 588 → f9 b = f b)) (qP (dC, dI) cI cL cZ cR cG cH L) (fun q => q ∈ L)) [.ref o0, .int p1, .int p2, .int p3, .int p4, .int p5].toArray s 0 0 (fun q => q ∈ L)) (F0 m 89 ls [.int y_373]) := by
                intro y_373 by_373 hjhcut_374_0 ls hl
                refine lv_istore (lv' := [(9, .int y_373), (8, .int x_372), (7, .int x_369), (6, .int y_359), (0, .ref o0), (1, .int p1), (2, .int p2), (3, .int p3), (4, .int p4), (5, .int p5)]) hx hb dX12_aligns_89 hl (by decide) rfl (fun ls hl => ?_)
                refine lv_iload hx hb dX12_aligns_91 (lv_at hl 0 rfl) ?_
                refine lv_if_eq (tgt := 100) hx hb dX12_aligns_93 (by decide) (fun c_375 => ?_) (fun c_375 => ?_)
                · skip
                  rw [← Int32.toInt_inj, ti_0] at c_375
                  refine lv_iload hx hb dX12_aligns_100 (lv_at hl 2 rfl) ?_
                  refine lv_if_eq (tgt := 124) hx hb dX12_aligns_102 (by decide) (fun c_376 => ?_) (fun c_376 => ?_)
                  · skip
                    rw [← Int32.toInt_inj, ti_0] at c_376
                    refine lv_iload hx hb dX12_aligns_124 (lv_at hl 1 rfl) ?_
                    refine lv_if_eq (tgt := 151) hx hb dX12_aligns_126 (by decide) (fun c_377 => ?_) (fun c_377 => ?_)
                    · skip
                      rw [← Int32.toInt_inj, ti_0] at c_377
                      refine lv_aload_n hx hb dX12_aligns_151 rfl (lv_at hl 4 rfl) ?_
                      refine lv_iload hx hb dX12_aligns_152 (lv_at hl 8 rfl) ?_
                      refine lv_aload_n hx hb dX12_aligns_154 rfl (lv_at hl 4 rfl) ?_
                      refine tk_getP (D := (dC, dI)) (ci := 12) (v := .ref a_2) (C := RX12) (T := TX12) (N := 56) hx hb hU inlX12 hown hK hP mo0 hfo_362 rfl 0 (by decide) (hU _ wd_169) (fun _ h9 => h9) rfl dX12_aligns_155 ?_
                      refine lv_bipush (v := 20) hx hb dX12_aligns_158 (by decide) ?_
                      refine lv_iload hx hb dX12_aligns_160 (lv_at hl 3 rfl) ?_
                      refine lv_iadd hx hb dX12_aligns_162 ?_
                      refine lv_topi (fun x_378 ex_378 => ?_)
                      have hx_378 : x_378.toInt = 20 + y_359.toInt := by rw [ex_378, ad_I (by rw [ti_20]; omega) (by rw [ti_20]; omega), ti_20]
                      have bx_378 : (20 ≤ x_378.toInt ∧ x_378.toInt ≤ 39) := by constructor <;> omega
                      refine tk_ildP hx hb hK hP 0 ma_2 hfo_363 rfl (vp_in_iff.mpr (by constructor <;> omega)) dX12_aligns_163 ?_
                      refine lv_topi (fun x_379 ex_379 => ?_)
                      have bx_379 : (0 ≤ x_379.toInt ∧ x_379.toInt ≤ 80) := by have hc9 := cl_I (i := x_378) (by omega); rw [ex_379]; exact hbg_364.2.2.2.2.2.1 _ (by omega) (by omega) (by omega)
                      refine lv_iload hx hb dX12_aligns_164 (lv_at hl 9 rfl) ?_
                      refine tk_ViP (As := [.int p4, .int x_379, .int p5]) (rest := []) (n := 3) hx hb hml hown hU hN hZ (s_X12_reads_k12 l (dC, dI) cI cL cZ cR cG cH Z kd L f_361 hG o0 mo0 ko0 p4 (by constructor <;> omega) x_379 p5) wd_950 wd_951 wd_952 wd_5 wd_953 (by decide +kernel) ⟨(show 4 + 1 ≤ 5 + (n_ + 1) by omega), (show 8 + (5 + 11) + 105 ≤ 129 + (n_ + 1) * 29 by omega)⟩ hK hP hD hS mo0 hfo_362 12 rfl rfl rfl hl.1 rfl (Nat.le_of_ble_eq_true rfl) dX12_aligns_166 ⟨Nat.le_of_ble_eq_true rfl, Nat.le_of_ble_eq_true rfl⟩ (fun x_380 f_381 H locs hw hP hD hS => ?_)
                      obtain ⟨hG, bx_380, hkc_382⟩ := hw
                      have hfo_384 : f_381 o0 = .inr (12, [.ref a_2, .ref a_3, .ref a_4, .int v_5, .ref a_6, .int v_7, .int v_8, .int v_9, .int v_10, .int v_11, .int v_12, .int v_13, .int v_14, .int v_15, .int v_16, .ref a_17, .ref a_18, .ref a_19, .ref a_20, .ref a_21, .ref a_22, .ref a_23, .ref a_24, .int v_25, .int v_26, .int v_27, .int v_28, .int v_29, .ref a_30, .int v_31, .ref a_32, .ref a_33, .int v_34, .int v_35, .ref a_36, .int v_37, .ref a_38, .ref a_39, .int v_40, .int v_41, .ref a_42, .ref a_43, .ref a_44, .int v_45, .ref a_46, .ref a_47, .ref a_48, .ref a_49, .ref a_50, .ref a_51, .ref a_52, .ref a_53, .ref a_54, .int v_55, .int v_56, .ref a_57]) := by rw [hkc_382 o0 (by rw [ko0]; decide) (by rw [ko0]; decide) (by rw [ko0]; decide) (by rw [ko0]; decide) (by rw [ko0]; decide) (by rw [ko0]; decide)]; exact hfo_362
                      have hfo_385 : f_381 a_2 = .inl (cI, 1560, .inl g_364) := by rw [hkc_382 a_2 (by rw [ka_2]; decide) (by rw [ka_2]; decide) (by rw [ka_2]; decide) (by rw [ka_2]; decide) (by rw [ka_2]; decide) (by rw [ka_2]; decide)]; exact hfo_363
                      have hfr0 : ∀ b, kd b ≠ 579 → kd b ≠ 581 → kd b ≠ 583 → kd b ≠ 585 → kd b ≠ 587 → kd b ≠ 588 → f_381 b = f b := fun b q579 q581 q583 q585 q587 q588 => (hkc_382 b q579 q581 q583 q585 q587 q588).trans (hfr0 b q579 q581 q583 q585 q587 q588)
                      refine lv_if_eq (tgt := 223) hx hb dX12_aligns_169 (by decide) (fun c_386 => ?_) (fun c_386 => ?_)
                      · skip
                        rw [← Int32.toInt_inj, ti_0] at c_386
                        obtain ⟨x_387, ex_387⟩ : ∃ y : Int32, y_359 + 1 = y := ⟨_, rfl⟩
                        have hx_387 : x_387.toInt = y_359.toInt + 1 := by rw [← ex_387, ad_I (by rw [ti_1]; omega) (by rw [ti_1]; omega), ti_1]
                        have bx_387 : (1 ≤ x_387.toInt ∧ x_387.toInt ≤ 20) := by constructor <;> omega
                        refine lv_iinc (v := x_387) (lv' := [(6, .int x_387), (9, .int y_373), (8, .int x_372), (7, .int x_369), (0, .ref o0), (1, .int p1), (2, .int p2), (3, .int p3), (4, .int p4), (5, .int p5)]) hx hb dX12_aligns_223 hl (k := 3) rfl ex_387 (by decide) rfl (fun ls hl => ?_)
                        refine lv_goto (tgt := 32) hx hb dX12_aligns_226 (by decide) ?_
                        exact ih_hloop_358 x_387 (by constructor <;> omega) f_381 hG _ _ hP hS hD hfr0 hfo_384 (by omega) ls (lv_sub hl [0, 4, 5, 6, 7, 8, 9] rfl)
                      · skip
                        rw [← Int32.toInt_inj, ti_0] at c_386
                        refine lv_aload_n hx hb dX12_aligns_172 rfl (lv_at hl 4 rfl) ?_
                        refine lv_iload hx hb dX12_aligns_173 (lv_at hl 2 rfl) ?_
                        refine lv_if_ne (tgt := 182) hx hb dX12_aligns_175 (by decide) (fun c_388 => ?_) (fun c_388 => ?_)
                        · skip
                          rw [← Int32.toInt_inj, ti_0] at c_388
                          exfalso
                          omega
                        · skip
                          rw [← Int32.toInt_inj, ti_0] at c_388
                          refine lv_iload_n hx hb dX12_aligns_178 rfl (lv_at hl 5 rfl) ?_
                          refine lv_goto (tgt := 185) hx hb dX12_aligns_179 (by decide) ?_
                          refine lv_iload hx hb dX12_aligns_185 (lv_at hl 1 rfl) ?_
                          refine lv_if_ne (tgt := 194) hx hb dX12_aligns_187 (by decide) (fun c_389 => ?_) (fun c_389 => ?_)
                          · skip
                            rw [← Int32.toInt_inj, ti_0] at c_389
                            exfalso
                            omega
                          · skip
                            rw [← Int32.toInt_inj, ti_0] at c_389
                            refine lv_iload_n hx hb dX12_aligns_190 rfl (lv_at hl 6 rfl) ?_
                            refine lv_goto (tgt := 197) hx hb dX12_aligns_191 (by decide) ?_
                            refine lv_iload hx hb dX12_aligns_197 (lv_at hl 0 rfl) ?_
                            refine lv_if_eq (tgt := 208) hx hb dX12_aligns_199 (by decide) (fun c_390 => ?_) (fun c_390 => ?_)
                            · skip
                              rw [← Int32.toInt_inj, ti_0] at c_390
                              refine lv_iload_n hx hb dX12_aligns_208 rfl (lv_at hl 7 rfl) ?_
                              refine lv_iload hx hb dX12_aligns_209 (lv_at hl 8 rfl) ?_
                              refine lv_iconst (v := 1) hx hb dX12_aligns_211 (by decide) ?_
                              refine lv_iadd hx hb dX12_aligns_212 ?_
                              refine lv_topi (fun x_391 ex_391 => ?_)
                              have hx_391 : x_391.toInt = p4.toInt + 1 := by rw [ex_391, ad_I (by rw [ti_1]; omega) (by rw [ti_1]; omega), ti_1]
                              have bx_391 : (1 ≤ x_391.toInt ∧ x_391.toInt ≤ 14) := by constructor <;> omega
                              have hclc_392 : (1 ≤ x_391.toInt ∧ x_391.toInt ≤ 13) := by constructor <;> omega
                              refine lv_iload hx hb dX12_aligns_213 (lv_at hl 9 rfl) ?_
                              refine tk_ViP (As := [.int p1, .int p2, .int p3, .int x_391, .int p5]) (rest := []) (n := 5) hx hb hml hown hU hN hZ (ih_rec f_381 hG o0 mo0 ko0 p1 (by constructor <;> omega) p2 (by constructor <;> omega) p3 (by constructor <;> omega) x_391 (by constructor <;> omega) p5 (by intro w23 w35 e23 e35; rw [hfo_384] at e23 e35; obtain rfl := Option.some.inj e23; obtain rfl := Option.some.inj e35; omega) (by omega) (by omega)) wd_1054 wd_1055 wd_1056 wd_5 wd_1057 (by decide +kernel) ⟨(show (5 + n_) + 1 ≤ 5 + (n_ + 1) by omega), (show 8 + (10 + 11) + (129 + n_ * 29) ≤ 129 + (n_ + 1) * 29 by omega)⟩ hK hP hD hS mo0 hfo_384 12 rfl rfl rfl hl.1 rfl (Nat.le_of_ble_eq_true rfl) dX12_aligns_215 ⟨Nat.le_of_ble_eq_true rfl, Nat.le_of_ble_eq_true rfl⟩ (fun x_393 f_394 H locs hw hP hD hS => ?_)
                              obtain ⟨hG, bx_393, hkc_395⟩ := hw
                              have hfo_397 : f_394 o0 = .inr (12, [.ref a_2, .ref a_3, .ref a_4, .int v_5, .ref a_6, .int v_7, .int v_8, .int v_9, .int v_10, .int v_11, .int v_12, .int v_13, .int v_14, .int v_15, .int v_16, .ref a_17, .ref a_18, .ref a_19, .ref a_20, .ref a_21, .ref a_22, .ref a_23, .ref a_24, .int v_25, .int v_26, .int v_27, .int v_28, .int v_29, .ref a_30, .int v_31, .ref a_32, .ref a_33, .int v_34, .int v_35, .ref a_36, .int v_37, .ref a_38, .ref a_39, .int v_40, .int v_41, .ref a_42, .ref a_43, .ref a_44, .int v_45, .ref a_46, .ref a_47, .ref a_48, .ref a_49, .ref a_50, .ref a_51, .ref a_52, .ref a_53, .ref a_54, .int v_55, .int v_56, .ref a_57]) := by rw [hkc_395 o0 (by rw [ko0]; decide) (by rw [ko0]; decide) (by rw [ko0]; decide) (by rw [ko0]; decide) (by rw [ko0]; decide) (by rw [ko0]; decide)]; exact hfo_384
                              have hfo_398 : f_394 a_2 = .inl (cI, 1560, .inl g_364) := by rw [hkc_395 a_2 (by rw [ka_2]; decide) (by rw [ka_2]; decide) (by rw [ka_2]; decide) (by rw [ka_2]; decide) (by rw [ka_2]; decide) (by rw [ka_2]; decide)]; exact hfo_385
                              have hfr0 : ∀ b, kd b ≠ 579 → kd b ≠ 581 → kd b ≠ 583 → kd b ≠ 585 → kd b ≠ 587 → kd b ≠ 588 → f_394 b = f b := fun b q579 q581 q583 q585 q587 q588 => (hkc_395 b q579 q581 q583 q585 q587 q588).trans (hfr0 b q579 q581 q583 q585 q587 q588)
                              refine lv_if_eq (tgt := 223) hx hb dX12_aligns_218 (by decide) (fun c_399 => ?_) (fun c_399 => ?_)
                              · skip
                                rw [← Int32.toInt_inj, ti_0] at c_399
                                obtain ⟨x_400, ex_400⟩ : ∃ y : Int32, y_359 + 1 = y := ⟨_, rfl⟩
                                have hx_400 : x_400.toInt = y_359.toInt + 1 := by rw [← ex_400, ad_I (by rw [ti_1]; omega) (by rw [ti_1]; omega), ti_1]
                                have bx_400 : (1 ≤ x_400.toInt ∧ x_400.toInt ≤ 20) := by constructor <;> omega
                                refine lv_iinc (v := x_400) (lv' := [(6, .int x_400), (9, .int y_373), (8, .int x_372), (7, .int x_369), (0, .ref o0), (1, .int p1), (2, .int p2), (3, .int p3), (4, .int p4), (5, .int p5)]) hx hb dX12_aligns_223 hl (k := 3) rfl ex_400 (by decide) rfl (fun ls hl => ?_)
                                refine lv_goto (tgt := 32) hx hb dX12_aligns_226 (by decide) ?_
                                exact ih_hloop_358 x_400 (by constructor <;> omega) f_394 hG _ _ hP hS hD hfr0 hfo_397 (by omega) ls (lv_sub hl [0, 4, 5, 6, 7, 8, 9] rfl)
                              · skip
                                rw [← Int32.toInt_inj, ti_0] at c_399
                                refine lv_iconst (v := 1) hx hb dX12_aligns_221 (by decide) ?_
                                exact W.zret (v := 1) (ty := .boolean) hx hb hr rfl (fun t ht hW => ⟨⟨1, f_394, rfl, ⟨hG, (by decide), hfr0⟩, by rw [ht]; exact hP, va_K.moved hW.alike hK, pl_in hD⟩, hS.F ht⟩) hS.2.2 dX12_aligns_222
                            · skip
                              rw [← Int32.toInt_inj, ti_0] at c_390
                              exfalso
                              omega
                    · skip
                      rw [← Int32.toInt_inj, ti_0] at c_377
                      refine lv_iload_n hx hb dX12_aligns_129 rfl (lv_at hl 6 rfl) ?_
                      refine lv_aload_n hx hb dX12_aligns_130 rfl (lv_at hl 4 rfl) ?_
                      refine tk_getP (D := (dC, dI)) (ci := 12) (v := .int v_37) (C := RX12) (T := TX12) (N := 56) hx hb hU inlX12 hown hK hP mo0 hfo_362 rfl 35 (by decide) (hU _ wd_1049) (fun _ h9 => h9) rfl dX12_aligns_131 ?_
                      refine lv_icmp_eq (tgt := 223) hx hb dX12_aligns_134 (by decide) (fun c_401 => ?_) (fun c_401 => ?_)
                      · skip
                        rw [← Int32.toInt_inj] at c_401
                        obtain ⟨x_402, ex_402⟩ : ∃ y : Int32, y_359 + 1 = y := ⟨_, rfl⟩
                        have hx_402 : x_402.toInt = y_359.toInt + 1 := by rw [← ex_402, ad_I (by rw [ti_1]; omega) (by rw [ti_1]; omega), ti_1]
                        have bx_402 : (1 ≤ x_402.toInt ∧ x_402.toInt ≤ 20) := by constructor <;> omega
                        refine lv_iinc (v := x_402) (lv' := [(6, .int x_402), (9, .int y_373), (8, .int x_372), (7, .int x_369), (0, .ref o0), (1, .int p1), (2, .int p2), (3, .int p3), (4, .int p4), (5, .int p5)]) hx hb dX12_aligns_223 hl (k := 3) rfl ex_402 (by decide) rfl (fun ls hl => ?_)
                        refine lv_goto (tgt := 32) hx hb dX12_aligns_226 (by decide) ?_
                        exact ih_hloop_358 x_402 (by constructor <;> omega) f_361 hG _ _ hP hS hD hfr0 hfo_362 (by omega) ls (lv_sub hl [0, 4, 5, 6, 7, 8, 9] rfl)
                      · skip
                        rw [← Int32.toInt_inj] at c_401
                        have hclc_403 : (0 ≤ p2.toInt ∧ p2.toInt ≤ 7) := by constructor <;> omega
                        refine lv_aload_n hx hb dX12_aligns_137 rfl (lv_at hl 4 rfl) ?_
                        refine tk_getP (D := (dC, dI)) (ci := 12) (v := .ref a_36) (C := RX12) (T := TX12) (N := 56) hx hb hU inlX12 hown hK hP mo0 hfo_362 rfl 34 (by decide) (hU _ wd_186) (fun _ h9 => h9) rfl dX12_aligns_138 ?_
                        refine lv_iload_n hx hb dX12_aligns_141 rfl (lv_at hl 6 rfl) ?_
                        obtain ⟨g_405, hfo_404, hbg_405⟩ := un_594 (hG _ ma_36) ka_36
                        refine tk_ildP hx hb hK hP 0 ma_36 hfo_404 rfl (vp_in_iff.mpr (by constructor <;> omega)) dX12_aligns_142 ?_
                        refine lv_topi (fun x_406 ex_406 => ?_)
                        have bx_406 : (0 ≤ x_406.toInt ∧ x_406.toInt ≤ 8) := by rw [ex_406]; exact hbg_405 _
                        refine lv_iload hx hb dX12_aligns_143 (lv_at hl 1 rfl) ?_
                        refine lv_icmp_eq (tgt := 151) hx hb dX12_aligns_145 (by decide) (fun c_407 => ?_) (fun c_407 => ?_)
                        · skip
                          rw [← Int32.toInt_inj] at c_407
                          refine lv_aload_n hx hb dX12_aligns_151 rfl (lv_at hl 4 rfl) ?_
                          refine lv_iload hx hb dX12_aligns_152 (lv_at hl 8 rfl) ?_
                          refine lv_aload_n hx hb dX12_aligns_154 rfl (lv_at hl 4 rfl) ?_
                          refine tk_getP (D := (dC, dI)) (ci := 12) (v := .ref a_2) (C := RX12) (T := TX12) (N := 56) hx hb hU inlX12 hown hK hP mo0 hfo_362 rfl 0 (by decide) (hU _ wd_169) (fun _ h9 => h9) rfl dX12_aligns_155 ?_
                          refine lv_bipush (v := 20) hx hb dX12_aligns_158 (by decide) ?_
                          refine lv_iload hx hb dX12_aligns_160 (lv_at hl 3 rfl) ?_
                          refine lv_iadd hx hb dX12_aligns_162 ?_
                          refine lv_topi (fun x_408 ex_408 => ?_)
                          have hx_408 : x_408.toInt = 20 + y_359.toInt := by rw [ex_408, ad_I (by rw [ti_20]; omega) (by rw [ti_20]; omega), ti_20]
                          have bx_408 : (20 ≤ x_408.toInt ∧ x_408.toInt ≤ 39) := by constructor <;> omega
                          refine tk_ildP hx hb hK hP 0 ma_2 hfo_363 rfl (vp_in_iff.mpr (by constructor <;> omega)) dX12_aligns_163 ?_
                          refine lv_topi (fun x_409 ex_409 => ?_)
                          have bx_409 : (0 ≤ x_409.toInt ∧ x_409.toInt ≤ 80) := by have hc9 := cl_I (i := x_408) (by omega); rw [ex_409]; exact hbg_364.2.2.2.2.2.1 _ (by omega) (by omega) (by omega)
                          refine lv_iload hx hb dX12_aligns_164 (lv_at hl 9 rfl) ?_
                          refine tk_ViP (As := [.int p4, .int x_409, .int p5]) (rest := []) (n := 3) hx hb hml hown hU hN hZ (s_X12_reads_k12 l (dC, dI) cI cL cZ cR cG cH Z kd L f_361 hG o0 mo0 ko0 p4 (by constructor <;> omega) x_409 p5) wd_950 wd_951 wd_952 wd_5 wd_953 (by decide +kernel) ⟨(show 4 + 1 ≤ 5 + (n_ + 1) by omega), (show 8 + (5 + 11) + 105 ≤ 129 + (n_ + 1) * 29 by omega)⟩ hK hP hD hS mo0 hfo_362 12 rfl rfl rfl hl.1 rfl (Nat.le_of_ble_eq_true rfl) dX12_aligns_166 ⟨Nat.le_of_ble_eq_true rfl, Nat.le_of_ble_eq_true rfl⟩ (fun x_410 f_411 H locs hw hP hD hS => ?_)
                          obtain ⟨hG, bx_410, hkc_412⟩ := hw
                          have hfo_414 : f_411 o0 = .inr (12, [.ref a_2, .ref a_3, .ref a_4, .int v_5, .ref a_6, .int v_7, .int v_8, .int v_9, .int v_10, .int v_11, .int v_12, .int v_13, .int v_14, .int v_15, .int v_16, .ref a_17, .ref a_18, .ref a_19, .ref a_20, .ref a_21, .ref a_22, .ref a_23, .ref a_24, .int v_25, .int v_26, .int v_27, .int v_28, .int v_29, .ref a_30, .int v_31, .ref a_32, .ref a_33, .int v_34, .int v_35, .ref a_36, .int v_37, .ref a_38, .ref a_39, .int v_40, .int v_41, .ref a_42, .ref a_43, .ref a_44, .int v_45, .ref a_46, .ref a_47, .ref a_48, .ref a_49, .ref a_50, .ref a_51, .ref a_52, .ref a_53, .ref a_54, .int v_55, .int v_56, .ref a_57]) := by rw [hkc_412 o0 (by rw [ko0]; decide) (by rw [ko0]; decide) (by rw [ko0]; decide) (by rw [ko0]; decide) (by rw [ko0]; decide) (by rw [ko0]; decide)]; exact hfo_362
                          have hfo_415 : f_411 a_2 = .inl (cI, 1560, .inl g_364) := by rw [hkc_412 a_2 (by rw [ka_2]; decide) (by rw [ka_2]; decide) (by rw [ka_2]; decide) (by rw [ka_2]; decide) (by rw [ka_2]; decide) (by rw [ka_2]; decide)]; exact hfo_363
                          have hfo_416 : f_411 a_36 = .inl (cI, 16, .inl g_405) := by rw [hkc_412 a_36 (by rw [ka_36]; decide) (by rw [ka_36]; decide) (by rw [ka_36]; decide) (by rw [ka_36]; decide) (by rw [ka_36]; decide) (by rw [ka_36]; decide)]; exact hfo_404
                          have hfr0 : ∀ b, kd b ≠ 579 → kd b ≠ 581 → kd b ≠ 583 → kd b ≠ 585 → kd b ≠ 587 → kd b ≠ 588 → f_411 b = f b := fun b q579 q581 q583 q585 q587 q588 => (hkc_412 b q579 q581 q583 q585 q587 q588).trans (hfr0 b q579 q581 q583 q585 q587 q588)
                          refine lv_if_eq (tgt := 223) hx hb dX12_aligns_169 (by decide) (fun c_417 => ?_) (fun c_417 => ?_)
                          · skip
                            rw [← Int32.toInt_inj, ti_0] at c_417
                            obtain ⟨x_418, ex_418⟩ : ∃ y : Int32, y_359 + 1 = y := ⟨_, rfl⟩
                            have hx_418 : x_418.toInt = y_359.toInt + 1 := by rw [← ex_418, ad_I (by rw [ti_1]; omega) (by rw [ti_1]; omega), ti_1]
                            have bx_418 : (1 ≤ x_418.toInt ∧ x_418.toInt ≤ 20) := by constructor <;> omega
                            refine lv_iinc (v := x_418) (lv' := [(6, .int x_418), (9, .int y_373), (8, .int x_372), (7, .int x_369), (0, .ref o0), (1, .int p1), (2, .int p2), (3, .int p3), (4, .int p4), (5, .int p5)]) hx hb dX12_aligns_223 hl (k := 3) rfl ex_418 (by decide) rfl (fun ls hl => ?_)
                            refine lv_goto (tgt := 32) hx hb dX12_aligns_226 (by decide) ?_
                            exact ih_hloop_358 x_418 (by constructor <;> omega) f_411 hG _ _ hP hS hD hfr0 hfo_414 (by omega) ls (lv_sub hl [0, 4, 5, 6, 7, 8, 9] rfl)
                          · skip
                            rw [← Int32.toInt_inj, ti_0] at c_417
                            refine lv_aload_n hx hb dX12_aligns_172 rfl (lv_at hl 4 rfl) ?_
                            refine lv_iload hx hb dX12_aligns_173 (lv_at hl 2 rfl) ?_
                            refine lv_if_ne (tgt := 182) hx hb dX12_aligns_175 (by decide) (fun c_419 => ?_) (fun c_419 => ?_)
                            · skip
                              rw [← Int32.toInt_inj, ti_0] at c_419
                              exfalso
                              omega
                            · skip
                              rw [← Int32.toInt_inj, ti_0] at c_419
                              refine lv_iload_n hx hb dX12_aligns_178 rfl (lv_at hl 5 rfl) ?_
                              refine lv_goto (tgt := 185) hx hb dX12_aligns_179 (by decide) ?_
                              refine lv_iload hx hb dX12_aligns_185 (lv_at hl 1 rfl) ?_
                              refine lv_if_ne (tgt := 194) hx hb dX12_aligns_187 (by decide) (fun c_420 => ?_) (fun c_420 => ?_)
                              · skip
                                rw [← Int32.toInt_inj, ti_0] at c_420
                                refine lv_iload_n hx hb dX12_aligns_194 rfl (lv_at hl 6 rfl) ?_
                                refine lv_iconst (v := 1) hx hb dX12_aligns_195 (by decide) ?_
                                refine lv_iadd hx hb dX12_aligns_196 ?_
                                refine lv_topi (fun x_421 ex_421 => ?_)
                                have hx_421 : x_421.toInt = p2.toInt + 1 := by rw [ex_421, ad_I (by rw [ti_1]; omega) (by rw [ti_1]; omega), ti_1]
                                have bx_421 : (1 ≤ x_421.toInt ∧ x_421.toInt ≤ 8) := by constructor <;> omega
                                refine lv_iload hx hb dX12_aligns_197 (lv_at hl 0 rfl) ?_
                                refine lv_if_eq (tgt := 208) hx hb dX12_aligns_199 (by decide) (fun c_422 => ?_) (fun c_422 => ?_)
                                · skip
                                  rw [← Int32.toInt_inj, ti_0] at c_422
                                  refine lv_iload_n hx hb dX12_aligns_208 rfl (lv_at hl 7 rfl) ?_
                                  refine lv_iload hx hb dX12_aligns_209 (lv_at hl 8 rfl) ?_
                                  refine lv_iconst (v := 1) hx hb dX12_aligns_211 (by decide) ?_
                                  refine lv_iadd hx hb dX12_aligns_212 ?_
                                  refine lv_topi (fun x_423 ex_423 => ?_)
                                  have hx_423 : x_423.toInt = p4.toInt + 1 := by rw [ex_423, ad_I (by rw [ti_1]; omega) (by rw [ti_1]; omega), ti_1]
                                  have bx_423 : (1 ≤ x_423.toInt ∧ x_423.toInt ≤ 14) := by constructor <;> omega
                                  have hclc_424 : (1 ≤ x_423.toInt ∧ x_423.toInt ≤ 13) := by constructor <;> omega
                                  refine lv_iload hx hb dX12_aligns_213 (lv_at hl 9 rfl) ?_
                                  refine tk_ViP (As := [.int p1, .int x_421, .int p3, .int x_423, .int p5]) (rest := []) (n := 5) hx hb hml hown hU hN hZ (ih_rec f_411 hG o0 mo0 ko0 p1 (by constructor <;> omega) x_421 (by constructor <;> omega) p3 (by constructor <;> omega) x_423 (by constructor <;> omega) p5 (by intro w23 w35 e23 e35; rw [hfo_414] at e23 e35; obtain rfl := Option.some.inj e23; obtain rfl := Option.some.inj e35; omega) (by omega) (by omega)) wd_1054 wd_1055 wd_1056 wd_5 wd_1057 (by decide +kernel) ⟨(show (5 + n_) + 1 ≤ 5 + (n_ + 1) by omega), (show 8 + (10 + 11) + (129 + n_ * 29) ≤ 129 + (n_ + 1) * 29 by omega)⟩ hK hP hD hS mo0 hfo_414 12 rfl rfl rfl hl.1 rfl (Nat.le_of_ble_eq_true rfl) dX12_aligns_215 ⟨Nat.le_of_ble_eq_true rfl, Nat.le_of_ble_eq_true rfl⟩ (fun x_425 f_426 H locs hw hP hD hS => ?_)
                                  obtain ⟨hG, bx_425, hkc_427⟩ := hw
                                  have hfo_429 : f_426 o0 = .inr (12, [.ref a_2, .ref a_3, .ref a_4, .int v_5, .ref a_6, .int v_7, .int v_8, .int v_9, .int v_10, .int v_11, .int v_12, .int v_13, .int v_14, .int v_15, .int v_16, .ref a_17, .ref a_18, .ref a_19, .ref a_20, .ref a_21, .ref a_22, .ref a_23, .ref a_24, .int v_25, .int v_26, .int v_27, .int v_28, .int v_29, .ref a_30, .int v_31, .ref a_32, .ref a_33, .int v_34, .int v_35, .ref a_36, .int v_37, .ref a_38, .ref a_39, .int v_40, .int v_41, .ref a_42, .ref a_43, .ref a_44, .int v_45, .ref a_46, .ref a_47, .ref a_48, .ref a_49, .ref a_50, .ref a_51, .ref a_52, .ref a_53, .ref a_54, .int v_55, .int v_56, .ref a_57]) := by rw [hkc_427 o0 (by rw [ko0]; decide) (by rw [ko0]; decide) (by rw [ko0]; decide) (by rw [ko0]; decide) (by rw [ko0]; decide) (by rw [ko0]; decide)]; exact hfo_414
                                  have hfo_430 : f_426 a_2 = .inl (cI, 1560, .inl g_364) := by rw [hkc_427 a_2 (by rw [ka_2]; decide) (by rw [ka_2]; decide) (by rw [ka_2]; decide) (by rw [ka_2]; decide) (by rw [ka_2]; decide) (by rw [ka_2]; decide)]; exact hfo_415
                                  have hfo_431 : f_426 a_36 = .inl (cI, 16, .inl g_405) := by rw [hkc_427 a_36 (by rw [ka_36]; decide) (by rw [ka_36]; decide) (by rw [ka_36]; decide) (by rw [ka_36]; decide) (by rw [ka_36]; decide) (by rw [ka_36]; decide)]; exact hfo_416
                                  have hfr0 : ∀ b, kd b ≠ 579 → kd b ≠ 581 → kd b ≠ 583 → kd b ≠ 585 → kd b ≠ 587 → kd b ≠ 588 → f_426 b = f b := fun b q579 q581 q583 q585 q587 q588 => (hkc_427 b q579 q581 q583 q585 q587 q588).trans (hfr0 b q579 q581 q583 q585 q587 q588)
                                  refine lv_if_eq (tgt := 223) hx hb dX12_aligns_218 (by decide) (fun c_432 => ?_) (fun c_432 => ?_)
                                  · skip
                                    rw [← Int32.toInt_inj, ti_0] at c_432
                                    obtain ⟨x_433, ex_433⟩ : ∃ y : Int32, y_359 + 1 = y := ⟨_, rfl⟩
                                    have hx_433 : x_433.toInt = y_359.toInt + 1 := by rw [← ex_433, ad_I (by rw [ti_1]; omega) (by rw [ti_1]; omega), ti_1]
                                    have bx_433 : (1 ≤ x_433.toInt ∧ x_433.toInt ≤ 20) := by constructor <;> omega
                                    refine lv_iinc (v := x_433) (lv' := [(6, .int x_433), (9, .int y_373), (8, .int x_372), (7, .int x_369), (0, .ref o0), (1, .int p1), (2, .int p2), (3, .int p3), (4, .int p4), (5, .int p5)]) hx hb dX12_aligns_223 hl (k := 3) rfl ex_433 (by decide) rfl (fun ls hl => ?_)
                                    refine lv_goto (tgt := 32) hx hb dX12_aligns_226 (by decide) ?_
                                    exact ih_hloop_358 x_433 (by constructor <;> omega) f_426 hG _ _ hP hS hD hfr0 hfo_429 (by omega) ls (lv_sub hl [0, 4, 5, 6, 7, 8, 9] rfl)
                                  · skip
                                    rw [← Int32.toInt_inj, ti_0] at c_432
                                    refine lv_iconst (v := 1) hx hb dX12_aligns_221 (by decide) ?_
                                    exact W.zret (v := 1) (ty := .boolean) hx hb hr rfl (fun t ht hW => ⟨⟨1, f_426, rfl, ⟨hG, (by decide), hfr0⟩, by rw [ht]; exact hP, va_K.moved hW.alike hK, pl_in hD⟩, hS.F ht⟩) hS.2.2 dX12_aligns_222
                                · skip
                                  rw [← Int32.toInt_inj, ti_0] at c_422
                                  exfalso
                                  omega
                              · skip
                                rw [← Int32.toInt_inj, ti_0] at c_420
                                exfalso
                                omega
                        · skip
                          rw [← Int32.toInt_inj] at c_407
                          refine lv_goto (tgt := 223) hx hb dX12_aligns_148 (by decide) ?_
                          obtain ⟨x_434, ex_434⟩ : ∃ y : Int32, y_359 + 1 = y := ⟨_, rfl⟩
                          have hx_434 : x_434.toInt = y_359.toInt + 1 := by rw [← ex_434, ad_I (by rw [ti_1]; omega) (by rw [ti_1]; omega), ti_1]
                          have bx_434 : (1 ≤ x_434.toInt ∧ x_434.toInt ≤ 20) := by constructor <;> omega
                          refine lv_iinc (v := x_434) (lv' := [(6, .int x_434), (9, .int y_373), (8, .int x_372), (7, .int x_369), (0, .ref o0), (1, .int p1), (2, .int p2), (3, .int p3), (4, .int p4), (5, .int p5)]) hx hb dX12_aligns_223 hl (k := 3) rfl ex_434 (by decide) rfl (fun ls hl => ?_)
                          refine lv_goto (tgt := 32) hx hb dX12_aligns_226 (by decide) ?_
                          exact ih_hloop_358 x_434 (by constructor <;> omega) f_361 hG _ _ hP hS hD hfr0 hfo_362 (by omega) ls (lv_sub hl [0, 4, 5, 6, 7, 8, 9] rfl)
                  · skip
                    rw [← Int32.toInt_inj, ti_0] at c_376
                    refine lv_iload_n hx hb dX12_aligns_105 rfl (lv_at hl 5 rfl) ?_
                    refine lv_aload_n hx hb dX12_aligns_106 rfl (lv_at hl 4 rfl) ?_
                    refine tk_getP (D := (dC, dI)) (ci := 12) (v := .int v_25) (C := RX12) (T := TX12) (N := 56) hx hb hU inlX12 hown hK hP mo0 hfo_362 rfl 23 (by decide) (hU _ wd_867) (fun _ h9 => h9) rfl dX12_aligns_107 ?_
                    refine lv_icmp_eq (tgt := 223) hx hb dX12_aligns_110 (by decide) (fun c_435 => ?_) (fun c_435 => ?_)
                    · skip
                      rw [← Int32.toInt_inj] at c_435
                      obtain ⟨x_436, ex_436⟩ : ∃ y : Int32, y_359 + 1 = y := ⟨_, rfl⟩
                      have hx_436 : x_436.toInt = y_359.toInt + 1 := by rw [← ex_436, ad_I (by rw [ti_1]; omega) (by rw [ti_1]; omega), ti_1]
                      have bx_436 : (1 ≤ x_436.toInt ∧ x_436.toInt ≤ 20) := by constructor <;> omega
                      refine lv_iinc (v := x_436) (lv' := [(6, .int x_436), (9, .int y_373), (8, .int x_372), (7, .int x_369), (0, .ref o0), (1, .int p1), (2, .int p2), (3, .int p3), (4, .int p4), (5, .int p5)]) hx hb dX12_aligns_223 hl (k := 3) rfl ex_436 (by decide) rfl (fun ls hl => ?_)
                      refine lv_goto (tgt := 32) hx hb dX12_aligns_226 (by decide) ?_
                      exact ih_hloop_358 x_436 (by constructor <;> omega) f_361 hG _ _ hP hS hD hfr0 hfo_362 (by omega) ls (lv_sub hl [0, 4, 5, 6, 7, 8, 9] rfl)
                    · skip
                      rw [← Int32.toInt_inj] at c_435
                      have hclc_437 : (0 ≤ p1.toInt ∧ p1.toInt ≤ 11) := by constructor <;> omega
                      refine lv_aload_n hx hb dX12_aligns_113 rfl (lv_at hl 4 rfl) ?_
                      refine tk_getP (D := (dC, dI)) (ci := 12) (v := .ref a_23) (C := RX12) (T := TX12) (N := 56) hx hb hU inlX12 hown hK hP mo0 hfo_362 rfl 21 (by decide) (hU _ wd_181) (fun _ h9 => h9) rfl dX12_aligns_114 ?_
                      refine lv_iload_n hx hb dX12_aligns_117 rfl (lv_at hl 5 rfl) ?_
                      obtain ⟨g_439, hfo_438, hbg_439⟩ := un_589 (hG _ ma_23) ka_23
                      refine tk_ildP hx hb hK hP 0 ma_23 hfo_438 rfl (vp_in_iff.mpr (by constructor <;> omega)) dX12_aligns_118 ?_
                      refine lv_topi (fun x_440 ex_440 => ?_)
                      have bx_440 : (0 ≤ x_440.toInt ∧ x_440.toInt ≤ 8) := by rw [ex_440]; exact hbg_439 _
                      refine lv_iload hx hb dX12_aligns_119 (lv_at hl 2 rfl) ?_
                      refine lv_icmp_ne (tgt := 223) hx hb dX12_aligns_121 (by decide) (fun c_441 => ?_) (fun c_441 => ?_)
                      · skip
                        rw [← Int32.toInt_inj] at c_441
                        obtain ⟨x_442, ex_442⟩ : ∃ y : Int32, y_359 + 1 = y := ⟨_, rfl⟩
                        have hx_442 : x_442.toInt = y_359.toInt + 1 := by rw [← ex_442, ad_I (by rw [ti_1]; omega) (by rw [ti_1]; omega), ti_1]
                        have bx_442 : (1 ≤ x_442.toInt ∧ x_442.toInt ≤ 20) := by constructor <;> omega
                        refine lv_iinc (v := x_442) (lv' := [(6, .int x_442), (9, .int y_373), (8, .int x_372), (7, .int x_369), (0, .ref o0), (1, .int p1), (2, .int p2), (3, .int p3), (4, .int p4), (5, .int p5)]) hx hb dX12_aligns_223 hl (k := 3) rfl ex_442 (by decide) rfl (fun ls hl => ?_)
                        refine lv_goto (tgt := 32) hx hb dX12_aligns_226 (by decide) ?_
                        exact ih_hloop_358 x_442 (by constructor <;> omega) f_361 hG _ _ hP hS hD hfr0 hfo_362 (by omega) ls (lv_sub hl [0, 4, 5, 6, 7, 8, 9] rfl)
                      · skip
                        rw [← Int32.toInt_inj] at c_441
                        refine lv_iload hx hb dX12_aligns_124 (lv_at hl 1 rfl) ?_
                        refine lv_if_eq (tgt := 151) hx hb dX12_aligns_126 (by decide) (fun c_443 => ?_) (fun c_443 => ?_)
                        · skip
                          rw [← Int32.toInt_inj, ti_0] at c_443
                          refine lv_aload_n hx hb dX12_aligns_151 rfl (lv_at hl 4 rfl) ?_
                          refine lv_iload hx hb dX12_aligns_152 (lv_at hl 8 rfl) ?_
                          refine lv_aload_n hx hb dX12_aligns_154 rfl (lv_at hl 4 rfl) ?_
                          refine tk_getP (D := (dC, dI)) (ci := 12) (v := .ref a_2) (C := RX12) (T := TX12) (N := 56) hx hb hU inlX12 hown hK hP mo0 hfo_362 rfl 0 (by decide) (hU _ wd_169) (fun _ h9 => h9) rfl dX12_aligns_155 ?_
                          refine lv_bipush (v := 20) hx hb dX12_aligns_158 (by decide) ?_
                          refine lv_iload hx hb dX12_aligns_160 (lv_at hl 3 rfl) ?_
                          refine lv_iadd hx hb dX12_aligns_162 ?_
                          refine lv_topi (fun x_444 ex_444 => ?_)
                          have hx_444 : x_444.toInt = 20 + y_359.toInt := by rw [ex_444, ad_I (by rw [ti_20]; omega) (by rw [ti_20]; omega), ti_20]
                          have bx_444 : (20 ≤ x_444.toInt ∧ x_444.toInt ≤ 39) := by constructor <;> omega
                          refine tk_ildP hx hb hK hP 0 ma_2 hfo_363 rfl (vp_in_iff.mpr (by constructor <;> omega)) dX12_aligns_163 ?_
                          refine lv_topi (fun x_445 ex_445 => ?_)
                          have bx_445 : (0 ≤ x_445.toInt ∧ x_445.toInt ≤ 80) := by have hc9 := cl_I (i := x_444) (by omega); rw [ex_445]; exact hbg_364.2.2.2.2.2.1 _ (by omega) (by omega) (by omega)
                          refine lv_iload hx hb dX12_aligns_164 (lv_at hl 9 rfl) ?_
                          refine tk_ViP (As := [.int p4, .int x_445, .int p5]) (rest := []) (n := 3) hx hb hml hown hU hN hZ (s_X12_reads_k12 l (dC, dI) cI cL cZ cR cG cH Z kd L f_361 hG o0 mo0 ko0 p4 (by constructor <;> omega) x_445 p5) wd_950 wd_951 wd_952 wd_5 wd_953 (by decide +kernel) ⟨(show 4 + 1 ≤ 5 + (n_ + 1) by omega), (show 8 + (5 + 11) + 105 ≤ 129 + (n_ + 1) * 29 by omega)⟩ hK hP hD hS mo0 hfo_362 12 rfl rfl rfl hl.1 rfl (Nat.le_of_ble_eq_true rfl) dX12_aligns_166 ⟨Nat.le_of_ble_eq_true rfl, Nat.le_of_ble_eq_true rfl⟩ (fun x_446 f_447 H locs hw hP hD hS => ?_)
                          obtain ⟨hG, bx_446, hkc_448⟩ := hw
                          have hfo_450 : f_447 o0 = .inr (12, [.ref a_2, .ref a_3, .ref a_4, .int v_5, .ref a_6, .int v_7, .int v_8, .int v_9, .int v_10, .int v_11, .int v_12, .int v_13, .int v_14, .int v_15, .int v_16, .ref a_17, .ref a_18, .ref a_19, .ref a_20, .ref a_21, .ref a_22, .ref a_23, .ref a_24, .int v_25, .int v_26, .int v_27, .int v_28, .int v_29, .ref a_30, .int v_31, .ref a_32, .ref a_33, .int v_34, .int v_35, .ref a_36, .int v_37, .ref a_38, .ref a_39, .int v_40, .int v_41, .ref a_42, .ref a_43, .ref a_44, .int v_45, .ref a_46, .ref a_47, .ref a_48, .ref a_49, .ref a_50, .ref a_51, .ref a_52, .ref a_53, .ref a_54, .int v_55, .int v_56, .ref a_57]) := by rw [hkc_448 o0 (by rw [ko0]; decide) (by rw [ko0]; decide) (by rw [ko0]; decide) (by rw [ko0]; decide) (by rw [ko0]; decide) (by rw [ko0]; decide)]; exact hfo_362
                          have hfo_451 : f_447 a_2 = .inl (cI, 1560, .inl g_364) := by rw [hkc_448 a_2 (by rw [ka_2]; decide) (by rw [ka_2]; decide) (by rw [ka_2]; decide) (by rw [ka_2]; decide) (by rw [ka_2]; decide) (by rw [ka_2]; decide)]; exact hfo_363
                          have hfo_452 : f_447 a_23 = .inl (cI, 16, .inl g_439) := by rw [hkc_448 a_23 (by rw [ka_23]; decide) (by rw [ka_23]; decide) (by rw [ka_23]; decide) (by rw [ka_23]; decide) (by rw [ka_23]; decide) (by rw [ka_23]; decide)]; exact hfo_438
                          have hfr0 : ∀ b, kd b ≠ 579 → kd b ≠ 581 → kd b ≠ 583 → kd b ≠ 585 → kd b ≠ 587 → kd b ≠ 588 → f_447 b = f b := fun b q579 q581 q583 q585 q587 q588 => (hkc_448 b q579 q581 q583 q585 q587 q588).trans (hfr0 b q579 q581 q583 q585 q587 q588)
                          refine lv_if_eq (tgt := 223) hx hb dX12_aligns_169 (by decide) (fun c_453 => ?_) (fun c_453 => ?_)
                          · skip
                            rw [← Int32.toInt_inj, ti_0] at c_453
                            obtain ⟨x_454, ex_454⟩ : ∃ y : Int32, y_359 + 1 = y := ⟨_, rfl⟩
                            have hx_454 : x_454.toInt = y_359.toInt + 1 := by rw [← ex_454, ad_I (by rw [ti_1]; omega) (by rw [ti_1]; omega), ti_1]
                            have bx_454 : (1 ≤ x_454.toInt ∧ x_454.toInt ≤ 20) := by constructor <;> omega
                            refine lv_iinc (v := x_454) (lv' := [(6, .int x_454), (9, .int y_373), (8, .int x_372), (7, .int x_369), (0, .ref o0), (1, .int p1), (2, .int p2), (3, .int p3), (4, .int p4), (5, .int p5)]) hx hb dX12_aligns_223 hl (k := 3) rfl ex_454 (by decide) rfl (fun ls hl => ?_)
                            refine lv_goto (tgt := 32) hx hb dX12_aligns_226 (by decide) ?_
                            exact ih_hloop_358 x_454 (by constructor <;> omega) f_447 hG _ _ hP hS hD hfr0 hfo_450 (by omega) ls (lv_sub hl [0, 4, 5, 6, 7, 8, 9] rfl)
                          · skip
                            rw [← Int32.toInt_inj, ti_0] at c_453
                            refine lv_aload_n hx hb dX12_aligns_172 rfl (lv_at hl 4 rfl) ?_
                            refine lv_iload hx hb dX12_aligns_173 (lv_at hl 2 rfl) ?_
                            refine lv_if_ne (tgt := 182) hx hb dX12_aligns_175 (by decide) (fun c_455 => ?_) (fun c_455 => ?_)
                            · skip
                              rw [← Int32.toInt_inj, ti_0] at c_455
                              refine lv_iload_n hx hb dX12_aligns_182 rfl (lv_at hl 5 rfl) ?_
                              refine lv_iconst (v := 1) hx hb dX12_aligns_183 (by decide) ?_
                              refine lv_iadd hx hb dX12_aligns_184 ?_
                              refine lv_topi (fun x_456 ex_456 => ?_)
                              have hx_456 : x_456.toInt = p1.toInt + 1 := by rw [ex_456, ad_I (by rw [ti_1]; omega) (by rw [ti_1]; omega), ti_1]
                              have bx_456 : (1 ≤ x_456.toInt ∧ x_456.toInt ≤ 12) := by constructor <;> omega
                              refine lv_iload hx hb dX12_aligns_185 (lv_at hl 1 rfl) ?_
                              refine lv_if_ne (tgt := 194) hx hb dX12_aligns_187 (by decide) (fun c_457 => ?_) (fun c_457 => ?_)
                              · skip
                                rw [← Int32.toInt_inj, ti_0] at c_457
                                exfalso
                                omega
                              · skip
                                rw [← Int32.toInt_inj, ti_0] at c_457
                                refine lv_iload_n hx hb dX12_aligns_190 rfl (lv_at hl 6 rfl) ?_
                                refine lv_goto (tgt := 197) hx hb dX12_aligns_191 (by decide) ?_
                                refine lv_iload hx hb dX12_aligns_197 (lv_at hl 0 rfl) ?_
                                refine lv_if_eq (tgt := 208) hx hb dX12_aligns_199 (by decide) (fun c_458 => ?_) (fun c_458 => ?_)
                                · skip
                                  rw [← Int32.toInt_inj, ti_0] at c_458
                                  refine lv_iload_n hx hb dX12_aligns_208 rfl (lv_at hl 7 rfl) ?_
                                  refine lv_iload hx hb dX12_aligns_209 (lv_at hl 8 rfl) ?_
                                  refine lv_iconst (v := 1) hx hb dX12_aligns_211 (by decide) ?_
                                  refine lv_iadd hx hb dX12_aligns_212 ?_
                                  refine lv_topi (fun x_459 ex_459 => ?_)
                                  have hx_459 : x_459.toInt = p4.toInt + 1 := by rw [ex_459, ad_I (by rw [ti_1]; omega) (by rw [ti_1]; omega), ti_1]
                                  have bx_459 : (1 ≤ x_459.toInt ∧ x_459.toInt ≤ 14) := by constructor <;> omega
                                  have hclc_460 : (1 ≤ x_459.toInt ∧ x_459.toInt ≤ 13) := by constructor <;> omega
                                  refine lv_iload hx hb dX12_aligns_213 (lv_at hl 9 rfl) ?_
                                  refine tk_ViP (As := [.int x_456, .int p2, .int p3, .int x_459, .int p5]) (rest := []) (n := 5) hx hb hml hown hU hN hZ (ih_rec f_447 hG o0 mo0 ko0 x_456 (by constructor <;> omega) p2 (by constructor <;> omega) p3 (by constructor <;> omega) x_459 (by constructor <;> omega) p5 (by intro w23 w35 e23 e35; rw [hfo_450] at e23 e35; obtain rfl := Option.some.inj e23; obtain rfl := Option.some.inj e35; omega) (by omega) (by omega)) wd_1054 wd_1055 wd_1056 wd_5 wd_1057 (by decide +kernel) ⟨(show (5 + n_) + 1 ≤ 5 + (n_ + 1) by omega), (show 8 + (10 + 11) + (129 + n_ * 29) ≤ 129 + (n_ + 1) * 29 by omega)⟩ hK hP hD hS mo0 hfo_450 12 rfl rfl rfl hl.1 rfl (Nat.le_of_ble_eq_true rfl) dX12_aligns_215 ⟨Nat.le_of_ble_eq_true rfl, Nat.le_of_ble_eq_true rfl⟩ (fun x_461 f_462 H locs hw hP hD hS => ?_)
                                  obtain ⟨hG, bx_461, hkc_463⟩ := hw
                                  have hfo_465 : f_462 o0 = .inr (12, [.ref a_2, .ref a_3, .ref a_4, .int v_5, .ref a_6, .int v_7, .int v_8, .int v_9, .int v_10, .int v_11, .int v_12, .int v_13, .int v_14, .int v_15, .int v_16, .ref a_17, .ref a_18, .ref a_19, .ref a_20, .ref a_21, .ref a_22, .ref a_23, .ref a_24, .int v_25, .int v_26, .int v_27, .int v_28, .int v_29, .ref a_30, .int v_31, .ref a_32, .ref a_33, .int v_34, .int v_35, .ref a_36, .int v_37, .ref a_38, .ref a_39, .int v_40, .int v_41, .ref a_42, .ref a_43, .ref a_44, .int v_45, .ref a_46, .ref a_47, .ref a_48, .ref a_49, .ref a_50, .ref a_51, .ref a_52, .ref a_53, .ref a_54, .int v_55, .int v_56, .ref a_57]) := by rw [hkc_463 o0 (by rw [ko0]; decide) (by rw [ko0]; decide) (by rw [ko0]; decide) (by rw [ko0]; decide) (by rw [ko0]; decide) (by rw [ko0]; decide)]; exact hfo_450
                                  have hfo_466 : f_462 a_2 = .inl (cI, 1560, .inl g_364) := by rw [hkc_463 a_2 (by rw [ka_2]; decide) (by rw [ka_2]; decide) (by rw [ka_2]; decide) (by rw [ka_2]; decide) (by rw [ka_2]; decide) (by rw [ka_2]; decide)]; exact hfo_451
                                  have hfo_467 : f_462 a_23 = .inl (cI, 16, .inl g_439) := by rw [hkc_463 a_23 (by rw [ka_23]; decide) (by rw [ka_23]; decide) (by rw [ka_23]; decide) (by rw [ka_23]; decide) (by rw [ka_23]; decide) (by rw [ka_23]; decide)]; exact hfo_452
                                  have hfr0 : ∀ b, kd b ≠ 579 → kd b ≠ 581 → kd b ≠ 583 → kd b ≠ 585 → kd b ≠ 587 → kd b ≠ 588 → f_462 b = f b := fun b q579 q581 q583 q585 q587 q588 => (hkc_463 b q579 q581 q583 q585 q587 q588).trans (hfr0 b q579 q581 q583 q585 q587 q588)
                                  refine lv_if_eq (tgt := 223) hx hb dX12_aligns_218 (by decide) (fun c_468 => ?_) (fun c_468 => ?_)
                                  · skip
                                    rw [← Int32.toInt_inj, ti_0] at c_468
                                    obtain ⟨x_469, ex_469⟩ : ∃ y : Int32, y_359 + 1 = y := ⟨_, rfl⟩
                                    have hx_469 : x_469.toInt = y_359.toInt + 1 := by rw [← ex_469, ad_I (by rw [ti_1]; omega) (by rw [ti_1]; omega), ti_1]
                                    have bx_469 : (1 ≤ x_469.toInt ∧ x_469.toInt ≤ 20) := by constructor <;> omega
                                    refine lv_iinc (v := x_469) (lv' := [(6, .int x_469), (9, .int y_373), (8, .int x_372), (7, .int x_369), (0, .ref o0), (1, .int p1), (2, .int p2), (3, .int p3), (4, .int p4), (5, .int p5)]) hx hb dX12_aligns_223 hl (k := 3) rfl ex_469 (by decide) rfl (fun ls hl => ?_)
                                    refine lv_goto (tgt := 32) hx hb dX12_aligns_226 (by decide) ?_
                                    exact ih_hloop_358 x_469 (by constructor <;> omega) f_462 hG _ _ hP hS hD hfr0 hfo_465 (by omega) ls (lv_sub hl [0, 4, 5, 6, 7, 8, 9] rfl)
                                  · skip
                                    rw [← Int32.toInt_inj, ti_0] at c_468
                                    refine lv_iconst (v := 1) hx hb dX12_aligns_221 (by decide) ?_
                                    exact W.zret (v := 1) (ty := .boolean) hx hb hr rfl (fun t ht hW => ⟨⟨1, f_462, rfl, ⟨hG, (by decide), hfr0⟩, by rw [ht]; exact hP, va_K.moved hW.alike hK, pl_in hD⟩, hS.F ht⟩) hS.2.2 dX12_aligns_222
                                · skip
                                  rw [← Int32.toInt_inj, ti_0] at c_458
                                  exfalso
                                  omega
                            · skip
                              rw [← Int32.toInt_inj, ti_0] at c_455
                              exfalso
                              omega
                        · skip
                          rw [← Int32.toInt_inj, ti_0] at c_443
                          refine lv_iload_n hx hb dX12_aligns_129 rfl (lv_at hl 6 rfl) ?_
                          refine lv_aload_n hx hb dX12_aligns_130 rfl (lv_at hl 4 rfl) ?_
                          refine tk_getP (D := (dC, dI)) (ci := 12) (v := .int v_37) (C := RX12) (T := TX12) (N := 56) hx hb hU inlX12 hown hK hP mo0 hfo_362 rfl 35 (by decide) (hU _ wd_1049) (fun _ h9 => h9) rfl dX12_aligns_131 ?_
                          refine lv_icmp_eq (tgt := 223) hx hb dX12_aligns_134 (by decide) (fun c_470 => ?_) (fun c_470 => ?_)
                          · skip
                            rw [← Int32.toInt_inj] at c_470
                            obtain ⟨x_471, ex_471⟩ : ∃ y : Int32, y_359 + 1 = y := ⟨_, rfl⟩
                            have hx_471 : x_471.toInt = y_359.toInt + 1 := by rw [← ex_471, ad_I (by rw [ti_1]; omega) (by rw [ti_1]; omega), ti_1]
                            have bx_471 : (1 ≤ x_471.toInt ∧ x_471.toInt ≤ 20) := by constructor <;> omega
                            refine lv_iinc (v := x_471) (lv' := [(6, .int x_471), (9, .int y_373), (8, .int x_372), (7, .int x_369), (0, .ref o0), (1, .int p1), (2, .int p2), (3, .int p3), (4, .int p4), (5, .int p5)]) hx hb dX12_aligns_223 hl (k := 3) rfl ex_471 (by decide) rfl (fun ls hl => ?_)
                            refine lv_goto (tgt := 32) hx hb dX12_aligns_226 (by decide) ?_
                            exact ih_hloop_358 x_471 (by constructor <;> omega) f_361 hG _ _ hP hS hD hfr0 hfo_362 (by omega) ls (lv_sub hl [0, 4, 5, 6, 7, 8, 9] rfl)
                          · skip
                            rw [← Int32.toInt_inj] at c_470
                            have hclc_472 : (0 ≤ p2.toInt ∧ p2.toInt ≤ 7) := by constructor <;> omega
                            refine lv_aload_n hx hb dX12_aligns_137 rfl (lv_at hl 4 rfl) ?_
                            refine tk_getP (D := (dC, dI)) (ci := 12) (v := .ref a_36) (C := RX12) (T := TX12) (N := 56) hx hb hU inlX12 hown hK hP mo0 hfo_362 rfl 34 (by decide) (hU _ wd_186) (fun _ h9 => h9) rfl dX12_aligns_138 ?_
                            refine lv_iload_n hx hb dX12_aligns_141 rfl (lv_at hl 6 rfl) ?_
                            obtain ⟨g_474, hfo_473, hbg_474⟩ := un_594 (hG _ ma_36) ka_36
                            refine tk_ildP hx hb hK hP 0 ma_36 hfo_473 rfl (vp_in_iff.mpr (by constructor <;> omega)) dX12_aligns_142 ?_
                            refine lv_topi (fun x_475 ex_475 => ?_)
                            have bx_475 : (0 ≤ x_475.toInt ∧ x_475.toInt ≤ 8) := by rw [ex_475]; exact hbg_474 _
                            refine lv_iload hx hb dX12_aligns_143 (lv_at hl 1 rfl) ?_
                            refine lv_icmp_eq (tgt := 151) hx hb dX12_aligns_145 (by decide) (fun c_476 => ?_) (fun c_476 => ?_)
                            · skip
                              rw [← Int32.toInt_inj] at c_476
                              refine lv_aload_n hx hb dX12_aligns_151 rfl (lv_at hl 4 rfl) ?_
                              refine lv_iload hx hb dX12_aligns_152 (lv_at hl 8 rfl) ?_
                              refine lv_aload_n hx hb dX12_aligns_154 rfl (lv_at hl 4 rfl) ?_
                              refine tk_getP (D := (dC, dI)) (ci := 12) (v := .ref a_2) (C := RX12) (T := TX12) (N := 56) hx hb hU inlX12 hown hK hP mo0 hfo_362 rfl 0 (by decide) (hU _ wd_169) (fun _ h9 => h9) rfl dX12_aligns_155 ?_
                              refine lv_bipush (v := 20) hx hb dX12_aligns_158 (by decide) ?_
                              refine lv_iload hx hb dX12_aligns_160 (lv_at hl 3 rfl) ?_
                              refine lv_iadd hx hb dX12_aligns_162 ?_
                              refine lv_topi (fun x_477 ex_477 => ?_)
                              have hx_477 : x_477.toInt = 20 + y_359.toInt := by rw [ex_477, ad_I (by rw [ti_20]; omega) (by rw [ti_20]; omega), ti_20]
                              have bx_477 : (20 ≤ x_477.toInt ∧ x_477.toInt ≤ 39) := by constructor <;> omega
                              refine tk_ildP hx hb hK hP 0 ma_2 hfo_363 rfl (vp_in_iff.mpr (by constructor <;> omega)) dX12_aligns_163 ?_
                              refine lv_topi (fun x_478 ex_478 => ?_)
                              have bx_478 : (0 ≤ x_478.toInt ∧ x_478.toInt ≤ 80) := by have hc9 := cl_I (i := x_477) (by omega); rw [ex_478]; exact hbg_364.2.2.2.2.2.1 _ (by omega) (by omega) (by omega)
                              refine lv_iload hx hb dX12_aligns_164 (lv_at hl 9 rfl) ?_
                              refine tk_ViP (As := [.int p4, .int x_478, .int p5]) (rest := []) (n := 3) hx hb hml hown hU hN hZ (s_X12_reads_k12 l (dC, dI) cI cL cZ cR cG cH Z kd L f_361 hG o0 mo0 ko0 p4 (by constructor <;> omega) x_478 p5) wd_950 wd_951 wd_952 wd_5 wd_953 (by decide +kernel) ⟨(show 4 + 1 ≤ 5 + (n_ + 1) by omega), (show 8 + (5 + 11) + 105 ≤ 129 + (n_ + 1) * 29 by omega)⟩ hK hP hD hS mo0 hfo_362 12 rfl rfl rfl hl.1 rfl (Nat.le_of_ble_eq_true rfl) dX12_aligns_166 ⟨Nat.le_of_ble_eq_true rfl, Nat.le_of_ble_eq_true rfl⟩ (fun x_479 f_480 H locs hw hP hD hS => ?_)
                              obtain ⟨hG, bx_479, hkc_481⟩ := hw
                              have hfo_483 : f_480 o0 = .inr (12, [.ref a_2, .ref a_3, .ref a_4, .int v_5, .ref a_6, .int v_7, .int v_8, .int v_9, .int v_10, .int v_11, .int v_12, .int v_13, .int v_14, .int v_15, .int v_16, .ref a_17, .ref a_18, .ref a_19, .ref a_20, .ref a_21, .ref a_22, .ref a_23, .ref a_24, .int v_25, .int v_26, .int v_27, .int v_28, .int v_29, .ref a_30, .int v_31, .ref a_32, .ref a_33, .int v_34, .int v_35, .ref a_36, .int v_37, .ref a_38, .ref a_39, .int v_40, .int v_41, .ref a_42, .ref a_43, .ref a_44, .int v_45, .ref a_46, .ref a_47, .ref a_48, .ref a_49, .ref a_50, .ref a_51, .ref a_52, .ref a_53, .ref a_54, .int v_55, .int v_56, .ref a_57]) := by rw [hkc_481 o0 (by rw [ko0]; decide) (by rw [ko0]; decide) (by rw [ko0]; decide) (by rw [ko0]; decide) (by rw [ko0]; decide) (by rw [ko0]; decide)]; exact hfo_362
                              have hfo_484 : f_480 a_2 = .inl (cI, 1560, .inl g_364) := by rw [hkc_481 a_2 (by rw [ka_2]; decide) (by rw [ka_2]; decide) (by rw [ka_2]; decide) (by rw [ka_2]; decide) (by rw [ka_2]; decide) (by rw [ka_2]; decide)]; exact hfo_363
                              have hfo_485 : f_480 a_23 = .inl (cI, 16, .inl g_439) := by rw [hkc_481 a_23 (by rw [ka_23]; decide) (by rw [ka_23]; decide) (by rw [ka_23]; decide) (by rw [ka_23]; decide) (by rw [ka_23]; decide) (by rw [ka_23]; decide)]; exact hfo_438
                              have hfo_486 : f_480 a_36 = .inl (cI, 16, .inl g_474) := by rw [hkc_481 a_36 (by rw [ka_36]; decide) (by rw [ka_36]; decide) (by rw [ka_36]; decide) (by rw [ka_36]; decide) (by rw [ka_36]; decide) (by rw [ka_36]; decide)]; exact hfo_473
                              have hfr0 : ∀ b, kd b ≠ 579 → kd b ≠ 581 → kd b ≠ 583 → kd b ≠ 585 → kd b ≠ 587 → kd b ≠ 588 → f_480 b = f b := fun b q579 q581 q583 q585 q587 q588 => (hkc_481 b q579 q581 q583 q585 q587 q588).trans (hfr0 b q579 q581 q583 q585 q587 q588)
                              refine lv_if_eq (tgt := 223) hx hb dX12_aligns_169 (by decide) (fun c_487 => ?_) (fun c_487 => ?_)
                              · skip
                                rw [← Int32.toInt_inj, ti_0] at c_487
                                obtain ⟨x_488, ex_488⟩ : ∃ y : Int32, y_359 + 1 = y := ⟨_, rfl⟩
                                have hx_488 : x_488.toInt = y_359.toInt + 1 := by rw [← ex_488, ad_I (by rw [ti_1]; omega) (by rw [ti_1]; omega), ti_1]
                                have bx_488 : (1 ≤ x_488.toInt ∧ x_488.toInt ≤ 20) := by constructor <;> omega
                                refine lv_iinc (v := x_488) (lv' := [(6, .int x_488), (9, .int y_373), (8, .int x_372), (7, .int x_369), (0, .ref o0), (1, .int p1), (2, .int p2), (3, .int p3), (4, .int p4), (5, .int p5)]) hx hb dX12_aligns_223 hl (k := 3) rfl ex_488 (by decide) rfl (fun ls hl => ?_)
                                refine lv_goto (tgt := 32) hx hb dX12_aligns_226 (by decide) ?_
                                exact ih_hloop_358 x_488 (by constructor <;> omega) f_480 hG _ _ hP hS hD hfr0 hfo_483 (by omega) ls (lv_sub hl [0, 4, 5, 6, 7, 8, 9] rfl)
                              · skip
                                rw [← Int32.toInt_inj, ti_0] at c_487
                                refine lv_aload_n hx hb dX12_aligns_172 rfl (lv_at hl 4 rfl) ?_
                                refine lv_iload hx hb dX12_aligns_173 (lv_at hl 2 rfl) ?_
                                refine lv_if_ne (tgt := 182) hx hb dX12_aligns_175 (by decide) (fun c_489 => ?_) (fun c_489 => ?_)
                                · skip
                                  rw [← Int32.toInt_inj, ti_0] at c_489
                                  refine lv_iload_n hx hb dX12_aligns_182 rfl (lv_at hl 5 rfl) ?_
                                  refine lv_iconst (v := 1) hx hb dX12_aligns_183 (by decide) ?_
                                  refine lv_iadd hx hb dX12_aligns_184 ?_
                                  refine lv_topi (fun x_490 ex_490 => ?_)
                                  have hx_490 : x_490.toInt = p1.toInt + 1 := by rw [ex_490, ad_I (by rw [ti_1]; omega) (by rw [ti_1]; omega), ti_1]
                                  have bx_490 : (1 ≤ x_490.toInt ∧ x_490.toInt ≤ 12) := by constructor <;> omega
                                  refine lv_iload hx hb dX12_aligns_185 (lv_at hl 1 rfl) ?_
                                  refine lv_if_ne (tgt := 194) hx hb dX12_aligns_187 (by decide) (fun c_491 => ?_) (fun c_491 => ?_)
                                  · skip
                                    rw [← Int32.toInt_inj, ti_0] at c_491
                                    refine lv_iload_n hx hb dX12_aligns_194 rfl (lv_at hl 6 rfl) ?_
                                    refine lv_iconst (v := 1) hx hb dX12_aligns_195 (by decide) ?_
                                    refine lv_iadd hx hb dX12_aligns_196 ?_
                                    refine lv_topi (fun x_492 ex_492 => ?_)
                                    have hx_492 : x_492.toInt = p2.toInt + 1 := by rw [ex_492, ad_I (by rw [ti_1]; omega) (by rw [ti_1]; omega), ti_1]
                                    have bx_492 : (1 ≤ x_492.toInt ∧ x_492.toInt ≤ 8) := by constructor <;> omega
                                    refine lv_iload hx hb dX12_aligns_197 (lv_at hl 0 rfl) ?_
                                    refine lv_if_eq (tgt := 208) hx hb dX12_aligns_199 (by decide) (fun c_493 => ?_) (fun c_493 => ?_)
                                    · skip
                                      rw [← Int32.toInt_inj, ti_0] at c_493
                                      refine lv_iload_n hx hb dX12_aligns_208 rfl (lv_at hl 7 rfl) ?_
                                      refine lv_iload hx hb dX12_aligns_209 (lv_at hl 8 rfl) ?_
                                      refine lv_iconst (v := 1) hx hb dX12_aligns_211 (by decide) ?_
                                      refine lv_iadd hx hb dX12_aligns_212 ?_
                                      refine lv_topi (fun x_494 ex_494 => ?_)
                                      have hx_494 : x_494.toInt = p4.toInt + 1 := by rw [ex_494, ad_I (by rw [ti_1]; omega) (by rw [ti_1]; omega), ti_1]
                                      have bx_494 : (1 ≤ x_494.toInt ∧ x_494.toInt ≤ 14) := by constructor <;> omega
                                      have hclc_495 : (1 ≤ x_494.toInt ∧ x_494.toInt ≤ 13) := by constructor <;> omega
                                      refine lv_iload hx hb dX12_aligns_213 (lv_at hl 9 rfl) ?_
                                      refine tk_ViP (As := [.int x_490, .int x_492, .int p3, .int x_494, .int p5]) (rest := []) (n := 5) hx hb hml hown hU hN hZ (ih_rec f_480 hG o0 mo0 ko0 x_490 (by constructor <;> omega) x_492 (by constructor <;> omega) p3 (by constructor <;> omega) x_494 (by constructor <;> omega) p5 (by intro w23 w35 e23 e35; rw [hfo_483] at e23 e35; obtain rfl := Option.some.inj e23; obtain rfl := Option.some.inj e35; omega) (by omega) (by omega)) wd_1054 wd_1055 wd_1056 wd_5 wd_1057 (by decide +kernel) ⟨(show (5 + n_) + 1 ≤ 5 + (n_ + 1) by omega), (show 8 + (10 + 11) + (129 + n_ * 29) ≤ 129 + (n_ + 1) * 29 by omega)⟩ hK hP hD hS mo0 hfo_483 12 rfl rfl rfl hl.1 rfl (Nat.le_of_ble_eq_true rfl) dX12_aligns_215 ⟨Nat.le_of_ble_eq_true rfl, Nat.le_of_ble_eq_true rfl⟩ (fun x_496 f_497 H locs hw hP hD hS => ?_)
                                      obtain ⟨hG, bx_496, hkc_498⟩ := hw
                                      have hfo_500 : f_497 o0 = .inr (12, [.ref a_2, .ref a_3, .ref a_4, .int v_5, .ref a_6, .int v_7, .int v_8, .int v_9, .int v_10, .int v_11, .int v_12, .int v_13, .int v_14, .int v_15, .int v_16, .ref a_17, .ref a_18, .ref a_19, .ref a_20, .ref a_21, .ref a_22, .ref a_23, .ref a_24, .int v_25, .int v_26, .int v_27, .int v_28, .int v_29, .ref a_30, .int v_31, .ref a_32, .ref a_33, .int v_34, .int v_35, .ref a_36, .int v_37, .ref a_38, .ref a_39, .int v_40, .int v_41, .ref a_42, .ref a_43, .ref a_44, .int v_45, .ref a_46, .ref a_47, .ref a_48, .ref a_49, .ref a_50, .ref a_51, .ref a_52, .ref a_53, .ref a_54, .int v_55, .int v_56, .ref a_57]) := by rw [hkc_498 o0 (by rw [ko0]; decide) (by rw [ko0]; decide) (by rw [ko0]; decide) (by rw [ko0]; decide) (by rw [ko0]; decide) (by rw [ko0]; decide)]; exact hfo_483
                                      have hfo_501 : f_497 a_2 = .inl (cI, 1560, .inl g_364) := by rw [hkc_498 a_2 (by rw [ka_2]; decide) (by rw [ka_2]; decide) (by rw [ka_2]; decide) (by rw [ka_2]; decide) (by rw [ka_2]; decide) (by rw [ka_2]; decide)]; exact hfo_484
                                      have hfo_502 : f_497 a_23 = .inl (cI, 16, .inl g_439) := by rw [hkc_498 a_23 (by rw [ka_23]; decide) (by rw [ka_23]; decide) (by rw [ka_23]; decide) (by rw [ka_23]; decide) (by rw [ka_23]; decide) (by rw [ka_23]; decide)]; exact hfo_485
                                      have hfo_503 : f_497 a_36 = .inl (cI, 16, .inl g_474) := by rw [hkc_498 a_36 (by rw [ka_36]; decide) (by rw [ka_36]; decide) (by rw [ka_36]; decide) (by rw [ka_36]; decide) (by rw [ka_36]; decide) (by rw [ka_36]; decide)]; exact hfo_486
                                      have hfr0 : ∀ b, kd b ≠ 579 → kd b ≠ 581 → kd b ≠ 583 → kd b ≠ 585 → kd b ≠ 587 → kd b ≠ 588 → f_497 b = f b := fun b q579 q581 q583 q585 q587 q588 => (hkc_498 b q579 q581 q583 q585 q587 q588).trans (hfr0 b q579 q581 q583 q585 q587 q588)
                                      refine lv_if_eq (tgt := 223) hx hb dX12_aligns_218 (by decide) (fun c_504 => ?_) (fun c_504 => ?_)
                                      · skip
                                        rw [← Int32.toInt_inj, ti_0] at c_504
                                        obtain ⟨x_505, ex_505⟩ : ∃ y : Int32, y_359 + 1 = y := ⟨_, rfl⟩
                                        have hx_505 : x_505.toInt = y_359.toInt + 1 := by rw [← ex_505, ad_I (by rw [ti_1]; omega) (by rw [ti_1]; omega), ti_1]
                                        have bx_505 : (1 ≤ x_505.toInt ∧ x_505.toInt ≤ 20) := by constructor <;> omega
                                        refine lv_iinc (v := x_505) (lv' := [(6, .int x_505), (9, .int y_373), (8, .int x_372), (7, .int x_369), (0, .ref o0), (1, .int p1), (2, .int p2), (3, .int p3), (4, .int p4), (5, .int p5)]) hx hb dX12_aligns_223 hl (k := 3) rfl ex_505 (by decide) rfl (fun ls hl => ?_)
                                        refine lv_goto (tgt := 32) hx hb dX12_aligns_226 (by decide) ?_
                                        exact ih_hloop_358 x_505 (by constructor <;> omega) f_497 hG _ _ hP hS hD hfr0 hfo_500 (by omega) ls (lv_sub hl [0, 4, 5, 6, 7, 8, 9] rfl)
                                      · skip
                                        rw [← Int32.toInt_inj, ti_0] at c_504
                                        refine lv_iconst (v := 1) hx hb dX12_aligns_221 (by decide) ?_
                                        exact W.zret (v := 1) (ty := .boolean) hx hb hr rfl (fun t ht hW => ⟨⟨1, f_497, rfl, ⟨hG, (by decide), hfr0⟩, by rw [ht]; exact hP, va_K.moved hW.alike hK, pl_in hD⟩, hS.F ht⟩) hS.2.2 dX12_aligns_222
                                    · skip
                                      rw [← Int32.toInt_inj, ti_0] at c_493
                                      exfalso
                                      omega
                                  · skip
                                    rw [← Int32.toInt_inj, ti_0] at c_491
                                    exfalso
                                    omega
                                · skip
                                  rw [← Int32.toInt_inj, ti_0] at c_489
                                  exfalso
                                  omega
                            · skip
                              rw [← Int32.toInt_inj] at c_476
                              refine lv_goto (tgt := 223) hx hb dX12_aligns_148 (by decide) ?_
                              obtain ⟨x_506, ex_506⟩ : ∃ y : Int32, y_359 + 1 = y := ⟨_, rfl⟩
                              have hx_506 : x_506.toInt = y_359.toInt + 1 := by rw [← ex_506, ad_I (by rw [ti_1]; omega) (by rw [ti_1]; omega), ti_1]
                              have bx_506 : (1 ≤ x_506.toInt ∧ x_506.toInt ≤ 20) := by constructor <;> omega
                              refine lv_iinc (v := x_506) (lv' := [(6, .int x_506), (9, .int y_373), (8, .int x_372), (7, .int x_369), (0, .ref o0), (1, .int p1), (2, .int p2), (3, .int p3), (4, .int p4), (5, .int p5)]) hx hb dX12_aligns_223 hl (k := 3) rfl ex_506 (by decide) rfl (fun ls hl => ?_)
                              refine lv_goto (tgt := 32) hx hb dX12_aligns_226 (by decide) ?_
                              exact ih_hloop_358 x_506 (by constructor <;> omega) f_361 hG _ _ hP hS hD hfr0 hfo_362 (by omega) ls (lv_sub hl [0, 4, 5, 6, 7, 8, 9] rfl)
                · skip
                  rw [← Int32.toInt_inj, ti_0] at c_375
                  refine lv_iload_n hx hb dX12_aligns_96 rfl (lv_at hl 7 rfl) ?_
                  refine lv_if_eq (tgt := 223) hx hb dX12_aligns_97 (by decide) (fun c_507 => ?_) (fun c_507 => ?_)
                  · skip
                    rw [← Int32.toInt_inj, ti_0] at c_507
                    obtain ⟨x_508, ex_508⟩ : ∃ y : Int32, y_359 + 1 = y := ⟨_, rfl⟩
                    have hx_508 : x_508.toInt = y_359.toInt + 1 := by rw [← ex_508, ad_I (by rw [ti_1]; omega) (by rw [ti_1]; omega), ti_1]
                    have bx_508 : (1 ≤ x_508.toInt ∧ x_508.toInt ≤ 20) := by constructor <;> omega
                    refine lv_iinc (v := x_508) (lv' := [(6, .int x_508), (9, .int y_373), (8, .int x_372), (7, .int x_369), (0, .ref o0), (1, .int p1), (2, .int p2), (3, .int p3), (4, .int p4), (5, .int p5)]) hx hb dX12_aligns_223 hl (k := 3) rfl ex_508 (by decide) rfl (fun ls hl => ?_)
                    refine lv_goto (tgt := 32) hx hb dX12_aligns_226 (by decide) ?_
                    exact ih_hloop_358 x_508 (by constructor <;> omega) f_361 hG _ _ hP hS hD hfr0 hfo_362 (by omega) ls (lv_sub hl [0, 4, 5, 6, 7, 8, 9] rfl)
                  · skip
                    rw [← Int32.toInt_inj, ti_0] at c_507
                    refine lv_iload hx hb dX12_aligns_100 (lv_at hl 2 rfl) ?_
                    refine lv_if_eq (tgt := 124) hx hb dX12_aligns_102 (by decide) (fun c_509 => ?_) (fun c_509 => ?_)
                    · skip
                      rw [← Int32.toInt_inj, ti_0] at c_509
                      refine lv_iload hx hb dX12_aligns_124 (lv_at hl 1 rfl) ?_
                      refine lv_if_eq (tgt := 151) hx hb dX12_aligns_126 (by decide) (fun c_510 => ?_) (fun c_510 => ?_)
                      · skip
                        rw [← Int32.toInt_inj, ti_0] at c_510
                        refine lv_aload_n hx hb dX12_aligns_151 rfl (lv_at hl 4 rfl) ?_
                        refine lv_iload hx hb dX12_aligns_152 (lv_at hl 8 rfl) ?_
                        refine lv_aload_n hx hb dX12_aligns_154 rfl (lv_at hl 4 rfl) ?_
                        refine tk_getP (D := (dC, dI)) (ci := 12) (v := .ref a_2) (C := RX12) (T := TX12) (N := 56) hx hb hU inlX12 hown hK hP mo0 hfo_362 rfl 0 (by decide) (hU _ wd_169) (fun _ h9 => h9) rfl dX12_aligns_155 ?_
                        refine lv_bipush (v := 20) hx hb dX12_aligns_158 (by decide) ?_
                        refine lv_iload hx hb dX12_aligns_160 (lv_at hl 3 rfl) ?_
                        refine lv_iadd hx hb dX12_aligns_162 ?_
                        refine lv_topi (fun x_511 ex_511 => ?_)
                        have hx_511 : x_511.toInt = 20 + y_359.toInt := by rw [ex_511, ad_I (by rw [ti_20]; omega) (by rw [ti_20]; omega), ti_20]
                        have bx_511 : (20 ≤ x_511.toInt ∧ x_511.toInt ≤ 39) := by constructor <;> omega
                        refine tk_ildP hx hb hK hP 0 ma_2 hfo_363 rfl (vp_in_iff.mpr (by constructor <;> omega)) dX12_aligns_163 ?_
                        refine lv_topi (fun x_512 ex_512 => ?_)
                        have bx_512 : (0 ≤ x_512.toInt ∧ x_512.toInt ≤ 80) := by have hc9 := cl_I (i := x_511) (by omega); rw [ex_512]; exact hbg_364.2.2.2.2.2.1 _ (by omega) (by omega) (by omega)
                        refine lv_iload hx hb dX12_aligns_164 (lv_at hl 9 rfl) ?_
                        refine tk_ViP (As := [.int p4, .int x_512, .int p5]) (rest := []) (n := 3) hx hb hml hown hU hN hZ (s_X12_reads_k12 l (dC, dI) cI cL cZ cR cG cH Z kd L f_361 hG o0 mo0 ko0 p4 (by constructor <;> omega) x_512 p5) wd_950 wd_951 wd_952 wd_5 wd_953 (by decide +kernel) ⟨(show 4 + 1 ≤ 5 + (n_ + 1) by omega), (show 8 + (5 + 11) + 105 ≤ 129 + (n_ + 1) * 29 by omega)⟩ hK hP hD hS mo0 hfo_362 12 rfl rfl rfl hl.1 rfl (Nat.le_of_ble_eq_true rfl) dX12_aligns_166 ⟨Nat.le_of_ble_eq_true rfl, Nat.le_of_ble_eq_true rfl⟩ (fun x_513 f_514 H locs hw hP hD hS => ?_)
                        obtain ⟨hG, bx_513, hkc_515⟩ := hw
                        have hfo_517 : f_514 o0 = .inr (12, [.ref a_2, .ref a_3, .ref a_4, .int v_5, .ref a_6, .int v_7, .int v_8, .int v_9, .int v_10, .int v_11, .int v_12, .int v_13, .int v_14, .int v_15, .int v_16, .ref a_17, .ref a_18, .ref a_19, .ref a_20, .ref a_21, .ref a_22, .ref a_23, .ref a_24, .int v_25, .int v_26, .int v_27, .int v_28, .int v_29, .ref a_30, .int v_31, .ref a_32, .ref a_33, .int v_34, .int v_35, .ref a_36, .int v_37, .ref a_38, .ref a_39, .int v_40, .int v_41, .ref a_42, .ref a_43, .ref a_44, .int v_45, .ref a_46, .ref a_47, .ref a_48, .ref a_49, .ref a_50, .ref a_51, .ref a_52, .ref a_53, .ref a_54, .int v_55, .int v_56, .ref a_57]) := by rw [hkc_515 o0 (by rw [ko0]; decide) (by rw [ko0]; decide) (by rw [ko0]; decide) (by rw [ko0]; decide) (by rw [ko0]; decide) (by rw [ko0]; decide)]; exact hfo_362
                        have hfo_518 : f_514 a_2 = .inl (cI, 1560, .inl g_364) := by rw [hkc_515 a_2 (by rw [ka_2]; decide) (by rw [ka_2]; decide) (by rw [ka_2]; decide) (by rw [ka_2]; decide) (by rw [ka_2]; decide) (by rw [ka_2]; decide)]; exact hfo_363
                        have hfr0 : ∀ b, kd b ≠ 579 → kd b ≠ 581 → kd b ≠ 583 → kd b ≠ 585 → kd b ≠ 587 → kd b ≠ 588 → f_514 b = f b := fun b q579 q581 q583 q585 q587 q588 => (hkc_515 b q579 q581 q583 q585 q587 q588).trans (hfr0 b q579 q581 q583 q585 q587 q588)
                        refine lv_if_eq (tgt := 223) hx hb dX12_aligns_169 (by decide) (fun c_519 => ?_) (fun c_519 => ?_)
                        · skip
                          rw [← Int32.toInt_inj, ti_0] at c_519
                          obtain ⟨x_520, ex_520⟩ : ∃ y : Int32, y_359 + 1 = y := ⟨_, rfl⟩
                          have hx_520 : x_520.toInt = y_359.toInt + 1 := by rw [← ex_520, ad_I (by rw [ti_1]; omega) (by rw [ti_1]; omega), ti_1]
                          have bx_520 : (1 ≤ x_520.toInt ∧ x_520.toInt ≤ 20) := by constructor <;> omega
                          refine lv_iinc (v := x_520) (lv' := [(6, .int x_520), (9, .int y_373), (8, .int x_372), (7, .int x_369), (0, .ref o0), (1, .int p1), (2, .int p2), (3, .int p3), (4, .int p4), (5, .int p5)]) hx hb dX12_aligns_223 hl (k := 3) rfl ex_520 (by decide) rfl (fun ls hl => ?_)
                          refine lv_goto (tgt := 32) hx hb dX12_aligns_226 (by decide) ?_
                          exact ih_hloop_358 x_520 (by constructor <;> omega) f_514 hG _ _ hP hS hD hfr0 hfo_517 (by omega) ls (lv_sub hl [0, 4, 5, 6, 7, 8, 9] rfl)
                        · skip
                          rw [← Int32.toInt_inj, ti_0] at c_519
                          refine lv_aload_n hx hb dX12_aligns_172 rfl (lv_at hl 4 rfl) ?_
                          refine lv_iload hx hb dX12_aligns_173 (lv_at hl 2 rfl) ?_
                          refine lv_if_ne (tgt := 182) hx hb dX12_aligns_175 (by decide) (fun c_521 => ?_) (fun c_521 => ?_)
                          · skip
                            rw [← Int32.toInt_inj, ti_0] at c_521
                            exfalso
                            omega
                          · skip
                            rw [← Int32.toInt_inj, ti_0] at c_521
                            refine lv_iload_n hx hb dX12_aligns_178 rfl (lv_at hl 5 rfl) ?_
                            refine lv_goto (tgt := 185) hx hb dX12_aligns_179 (by decide) ?_
                            refine lv_iload hx hb dX12_aligns_185 (lv_at hl 1 rfl) ?_
                            refine lv_if_ne (tgt := 194) hx hb dX12_aligns_187 (by decide) (fun c_522 => ?_) (fun c_522 => ?_)
                            · skip
                              rw [← Int32.toInt_inj, ti_0] at c_522
                              exfalso
                              omega
                            · skip
                              rw [← Int32.toInt_inj, ti_0] at c_522
                              refine lv_iload_n hx hb dX12_aligns_190 rfl (lv_at hl 6 rfl) ?_
                              refine lv_goto (tgt := 197) hx hb dX12_aligns_191 (by decide) ?_
                              refine lv_iload hx hb dX12_aligns_197 (lv_at hl 0 rfl) ?_
                              refine lv_if_eq (tgt := 208) hx hb dX12_aligns_199 (by decide) (fun c_523 => ?_) (fun c_523 => ?_)
                              · skip
                                rw [← Int32.toInt_inj, ti_0] at c_523
                                exfalso
                                omega
                              · skip
                                rw [← Int32.toInt_inj, ti_0] at c_523
                                refine lv_iload_n hx hb dX12_aligns_202 rfl (lv_at hl 7 rfl) ?_
                                refine lv_iconst (v := 1) hx hb dX12_aligns_203 (by decide) ?_
                                refine lv_isub hx hb dX12_aligns_204 ?_
                                refine lv_topi (fun x_524 ex_524 => ?_)
                                have hx_524 : x_524.toInt = p3.toInt - 1 := by rw [ex_524, sb_I (by rw [ti_1]; omega) (by rw [ti_1]; omega), ti_1]
                                have bx_524 : (0 ≤ x_524.toInt ∧ x_524.toInt ≤ 0) := by constructor <;> omega
                                refine lv_goto (tgt := 209) hx hb dX12_aligns_205 (by decide) ?_
                                refine lv_iload hx hb dX12_aligns_209 (lv_at hl 8 rfl) ?_
                                refine lv_iconst (v := 1) hx hb dX12_aligns_211 (by decide) ?_
                                refine lv_iadd hx hb dX12_aligns_212 ?_
                                refine lv_topi (fun x_525 ex_525 => ?_)
                                have hx_525 : x_525.toInt = p4.toInt + 1 := by rw [ex_525, ad_I (by rw [ti_1]; omega) (by rw [ti_1]; omega), ti_1]
                                have bx_525 : (1 ≤ x_525.toInt ∧ x_525.toInt ≤ 14) := by constructor <;> omega
                                have hclc_526 : (1 ≤ x_525.toInt ∧ x_525.toInt ≤ 13) := by constructor <;> omega
                                refine lv_iload hx hb dX12_aligns_213 (lv_at hl 9 rfl) ?_
                                refine tk_ViP (As := [.int p1, .int p2, .int x_524, .int x_525, .int p5]) (rest := []) (n := 5) hx hb hml hown hU hN hZ (ih_rec f_514 hG o0 mo0 ko0 p1 (by constructor <;> omega) p2 (by constructor <;> omega) x_524 (by constructor <;> omega) x_525 (by constructor <;> omega) p5 (by intro w23 w35 e23 e35; rw [hfo_517] at e23 e35; obtain rfl := Option.some.inj e23; obtain rfl := Option.some.inj e35; omega) (by omega) (by omega)) wd_1054 wd_1055 wd_1056 wd_5 wd_1057 (by decide +kernel) ⟨(show (5 + n_) + 1 ≤ 5 + (n_ + 1) by omega), (show 8 + (10 + 11) + (129 + n_ * 29) ≤ 129 + (n_ + 1) * 29 by omega)⟩ hK hP hD hS mo0 hfo_517 12 rfl rfl rfl hl.1 rfl (Nat.le_of_ble_eq_true rfl) dX12_aligns_215 ⟨Nat.le_of_ble_eq_true rfl, Nat.le_of_ble_eq_true rfl⟩ (fun x_527 f_528 H locs hw hP hD hS => ?_)
                                obtain ⟨hG, bx_527, hkc_529⟩ := hw
                                have hfo_531 : f_528 o0 = .inr (12, [.ref a_2, .ref a_3, .ref a_4, .int v_5, .ref a_6, .int v_7, .int v_8, .int v_9, .int v_10, .int v_11, .int v_12, .int v_13, .int v_14, .int v_15, .int v_16, .ref a_17, .ref a_18, .ref a_19, .ref a_20, .ref a_21, .ref a_22, .ref a_23, .ref a_24, .int v_25, .int v_26, .int v_27, .int v_28, .int v_29, .ref a_30, .int v_31, .ref a_32, .ref a_33, .int v_34, .int v_35, .ref a_36, .int v_37, .ref a_38, .ref a_39, .int v_40, .int v_41, .ref a_42, .ref a_43, .ref a_44, .int v_45, .ref a_46, .ref a_47, .ref a_48, .ref a_49, .ref a_50, .ref a_51, .ref a_52, .ref a_53, .ref a_54, .int v_55, .int v_56, .ref a_57]) := by rw [hkc_529 o0 (by rw [ko0]; decide) (by rw [ko0]; decide) (by rw [ko0]; decide) (by rw [ko0]; decide) (by rw [ko0]; decide) (by rw [ko0]; decide)]; exact hfo_517
                                have hfo_532 : f_528 a_2 = .inl (cI, 1560, .inl g_364) := by rw [hkc_529 a_2 (by rw [ka_2]; decide) (by rw [ka_2]; decide) (by rw [ka_2]; decide) (by rw [ka_2]; decide) (by rw [ka_2]; decide) (by rw [ka_2]; decide)]; exact hfo_518
                                have hfr0 : ∀ b, kd b ≠ 579 → kd b ≠ 581 → kd b ≠ 583 → kd b ≠ 585 → kd b ≠ 587 → kd b ≠ 588 → f_528 b = f b := fun b q579 q581 q583 q585 q587 q588 => (hkc_529 b q579 q581 q583 q585 q587 q588).trans (hfr0 b q579 q581 q583 q585 q587 q588)
                                refine lv_if_eq (tgt := 223) hx hb dX12_aligns_218 (by decide) (fun c_533 => ?_) (fun c_533 => ?_)
                                · skip
                                  rw [← Int32.toInt_inj, ti_0] at c_533
                                  obtain ⟨x_534, ex_534⟩ : ∃ y : Int32, y_359 + 1 = y := ⟨_, rfl⟩
                                  have hx_534 : x_534.toInt = y_359.toInt + 1 := by rw [← ex_534, ad_I (by rw [ti_1]; omega) (by rw [ti_1]; omega), ti_1]
                                  have bx_534 : (1 ≤ x_534.toInt ∧ x_534.toInt ≤ 20) := by constructor <;> omega
                                  refine lv_iinc (v := x_534) (lv' := [(6, .int x_534), (9, .int y_373), (8, .int x_372), (7, .int x_369), (0, .ref o0), (1, .int p1), (2, .int p2), (3, .int p3), (4, .int p4), (5, .int p5)]) hx hb dX12_aligns_223 hl (k := 3) rfl ex_534 (by decide) rfl (fun ls hl => ?_)
                                  refine lv_goto (tgt := 32) hx hb dX12_aligns_226 (by decide) ?_
                                  exact ih_hloop_358 x_534 (by constructor <;> omega) f_528 hG _ _ hP hS hD hfr0 hfo_531 (by omega) ls (lv_sub hl [0, 4, 5, 6, 7, 8, 9] rfl)
                                · skip
                                  rw [← Int32.toInt_inj, ti_0] at c_533
                                  refine lv_iconst (v := 1) hx hb dX12_aligns_221 (by decide) ?_
                                  exact W.zret (v := 1) (ty := .boolean) hx hb hr rfl (fun t ht hW => ⟨⟨1, f_528, rfl, ⟨hG, (by decide), hfr0⟩, by rw [ht]; exact hP, va_K.moved hW.alike hK, pl_in hD⟩, hS.F ht⟩) hS.2.2 dX12_aligns_222
                      · skip
                        rw [← Int32.toInt_inj, ti_0] at c_510
                        refine lv_iload_n hx hb dX12_aligns_129 rfl (lv_at hl 6 rfl) ?_
                        refine lv_aload_n hx hb dX12_aligns_130 rfl (lv_at hl 4 rfl) ?_
                        refine tk_getP (D := (dC, dI)) (ci := 12) (v := .int v_37) (C := RX12) (T := TX12) (N := 56) hx hb hU inlX12 hown hK hP mo0 hfo_362 rfl 35 (by decide) (hU _ wd_1049) (fun _ h9 => h9) rfl dX12_aligns_131 ?_
                        refine lv_icmp_eq (tgt := 223) hx hb dX12_aligns_134 (by decide) (fun c_535 => ?_) (fun c_535 => ?_)
                        · skip
                          rw [← Int32.toInt_inj] at c_535
                          obtain ⟨x_536, ex_536⟩ : ∃ y : Int32, y_359 + 1 = y := ⟨_, rfl⟩
                          have hx_536 : x_536.toInt = y_359.toInt + 1 := by rw [← ex_536, ad_I (by rw [ti_1]; omega) (by rw [ti_1]; omega), ti_1]
                          have bx_536 : (1 ≤ x_536.toInt ∧ x_536.toInt ≤ 20) := by constructor <;> omega
                          refine lv_iinc (v := x_536) (lv' := [(6, .int x_536), (9, .int y_373), (8, .int x_372), (7, .int x_369), (0, .ref o0), (1, .int p1), (2, .int p2), (3, .int p3), (4, .int p4), (5, .int p5)]) hx hb dX12_aligns_223 hl (k := 3) rfl ex_536 (by decide) rfl (fun ls hl => ?_)
                          refine lv_goto (tgt := 32) hx hb dX12_aligns_226 (by decide) ?_
                          exact ih_hloop_358 x_536 (by constructor <;> omega) f_361 hG _ _ hP hS hD hfr0 hfo_362 (by omega) ls (lv_sub hl [0, 4, 5, 6, 7, 8, 9] rfl)
                        · skip
                          rw [← Int32.toInt_inj] at c_535
                          have hclc_537 : (0 ≤ p2.toInt ∧ p2.toInt ≤ 7) := by constructor <;> omega
                          refine lv_aload_n hx hb dX12_aligns_137 rfl (lv_at hl 4 rfl) ?_
                          refine tk_getP (D := (dC, dI)) (ci := 12) (v := .ref a_36) (C := RX12) (T := TX12) (N := 56) hx hb hU inlX12 hown hK hP mo0 hfo_362 rfl 34 (by decide) (hU _ wd_186) (fun _ h9 => h9) rfl dX12_aligns_138 ?_
                          refine lv_iload_n hx hb dX12_aligns_141 rfl (lv_at hl 6 rfl) ?_
                          obtain ⟨g_539, hfo_538, hbg_539⟩ := un_594 (hG _ ma_36) ka_36
                          refine tk_ildP hx hb hK hP 0 ma_36 hfo_538 rfl (vp_in_iff.mpr (by constructor <;> omega)) dX12_aligns_142 ?_
                          refine lv_topi (fun x_540 ex_540 => ?_)
                          have bx_540 : (0 ≤ x_540.toInt ∧ x_540.toInt ≤ 8) := by rw [ex_540]; exact hbg_539 _
                          refine lv_iload hx hb dX12_aligns_143 (lv_at hl 1 rfl) ?_
                          refine lv_icmp_eq (tgt := 151) hx hb dX12_aligns_145 (by decide) (fun c_541 => ?_) (fun c_541 => ?_)
                          · skip
                            rw [← Int32.toInt_inj] at c_541
                            refine lv_aload_n hx hb dX12_aligns_151 rfl (lv_at hl 4 rfl) ?_
                            refine lv_iload hx hb dX12_aligns_152 (lv_at hl 8 rfl) ?_
                            refine lv_aload_n hx hb dX12_aligns_154 rfl (lv_at hl 4 rfl) ?_
                            refine tk_getP (D := (dC, dI)) (ci := 12) (v := .ref a_2) (C := RX12) (T := TX12) (N := 56) hx hb hU inlX12 hown hK hP mo0 hfo_362 rfl 0 (by decide) (hU _ wd_169) (fun _ h9 => h9) rfl dX12_aligns_155 ?_
                            refine lv_bipush (v := 20) hx hb dX12_aligns_158 (by decide) ?_
                            refine lv_iload hx hb dX12_aligns_160 (lv_at hl 3 rfl) ?_
                            refine lv_iadd hx hb dX12_aligns_162 ?_
                            refine lv_topi (fun x_542 ex_542 => ?_)
                            have hx_542 : x_542.toInt = 20 + y_359.toInt := by rw [ex_542, ad_I (by rw [ti_20]; omega) (by rw [ti_20]; omega), ti_20]
                            have bx_542 : (20 ≤ x_542.toInt ∧ x_542.toInt ≤ 39) := by constructor <;> omega
                            refine tk_ildP hx hb hK hP 0 ma_2 hfo_363 rfl (vp_in_iff.mpr (by constructor <;> omega)) dX12_aligns_163 ?_
                            refine lv_topi (fun x_543 ex_543 => ?_)
                            have bx_543 : (0 ≤ x_543.toInt ∧ x_543.toInt ≤ 80) := by have hc9 := cl_I (i := x_542) (by omega); rw [ex_543]; exact hbg_364.2.2.2.2.2.1 _ (by omega) (by omega) (by omega)
                            refine lv_iload hx hb dX12_aligns_164 (lv_at hl 9 rfl) ?_
                            refine tk_ViP (As := [.int p4, .int x_543, .int p5]) (rest := []) (n := 3) hx hb hml hown hU hN hZ (s_X12_reads_k12 l (dC, dI) cI cL cZ cR cG cH Z kd L f_361 hG o0 mo0 ko0 p4 (by constructor <;> omega) x_543 p5) wd_950 wd_951 wd_952 wd_5 wd_953 (by decide +kernel) ⟨(show 4 + 1 ≤ 5 + (n_ + 1) by omega), (show 8 + (5 + 11) + 105 ≤ 129 + (n_ + 1) * 29 by omega)⟩ hK hP hD hS mo0 hfo_362 12 rfl rfl rfl hl.1 rfl (Nat.le_of_ble_eq_true rfl) dX12_aligns_166 ⟨Nat.le_of_ble_eq_true rfl, Nat.le_of_ble_eq_true rfl⟩ (fun x_544 f_545 H locs hw hP hD hS => ?_)
                            obtain ⟨hG, bx_544, hkc_546⟩ := hw
                            have hfo_548 : f_545 o0 = .inr (12, [.ref a_2, .ref a_3, .ref a_4, .int v_5, .ref a_6, .int v_7, .int v_8, .int v_9, .int v_10, .int v_11, .int v_12, .int v_13, .int v_14, .int v_15, .int v_16, .ref a_17, .ref a_18, .ref a_19, .ref a_20, .ref a_21, .ref a_22, .ref a_23, .ref a_24, .int v_25, .int v_26, .int v_27, .int v_28, .int v_29, .ref a_30, .int v_31, .ref a_32, .ref a_33, .int v_34, .int v_35, .ref a_36, .int v_37, .ref a_38, .ref a_39, .int v_40, .int v_41, .ref a_42, .ref a_43, .ref a_44, .int v_45, .ref a_46, .ref a_47, .ref a_48, .ref a_49, .ref a_50, .ref a_51, .ref a_52, .ref a_53, .ref a_54, .int v_55, .int v_56, .ref a_57]) := by rw [hkc_546 o0 (by rw [ko0]; decide) (by rw [ko0]; decide) (by rw [ko0]; decide) (by rw [ko0]; decide) (by rw [ko0]; decide) (by rw [ko0]; decide)]; exact hfo_362
                            have hfo_549 : f_545 a_2 = .inl (cI, 1560, .inl g_364) := by rw [hkc_546 a_2 (by rw [ka_2]; decide) (by rw [ka_2]; decide) (by rw [ka_2]; decide) (by rw [ka_2]; decide) (by rw [ka_2]; decide) (by rw [ka_2]; decide)]; exact hfo_363
                            have hfo_550 : f_545 a_36 = .inl (cI, 16, .inl g_539) := by rw [hkc_546 a_36 (by rw [ka_36]; decide) (by rw [ka_36]; decide) (by rw [ka_36]; decide) (by rw [ka_36]; decide) (by rw [ka_36]; decide) (by rw [ka_36]; decide)]; exact hfo_538
                            have hfr0 : ∀ b, kd b ≠ 579 → kd b ≠ 581 → kd b ≠ 583 → kd b ≠ 585 → kd b ≠ 587 → kd b ≠ 588 → f_545 b = f b := fun b q579 q581 q583 q585 q587 q588 => (hkc_546 b q579 q581 q583 q585 q587 q588).trans (hfr0 b q579 q581 q583 q585 q587 q588)
                            refine lv_if_eq (tgt := 223) hx hb dX12_aligns_169 (by decide) (fun c_551 => ?_) (fun c_551 => ?_)
                            · skip
                              rw [← Int32.toInt_inj, ti_0] at c_551
                              obtain ⟨x_552, ex_552⟩ : ∃ y : Int32, y_359 + 1 = y := ⟨_, rfl⟩
                              have hx_552 : x_552.toInt = y_359.toInt + 1 := by rw [← ex_552, ad_I (by rw [ti_1]; omega) (by rw [ti_1]; omega), ti_1]
                              have bx_552 : (1 ≤ x_552.toInt ∧ x_552.toInt ≤ 20) := by constructor <;> omega
                              refine lv_iinc (v := x_552) (lv' := [(6, .int x_552), (9, .int y_373), (8, .int x_372), (7, .int x_369), (0, .ref o0), (1, .int p1), (2, .int p2), (3, .int p3), (4, .int p4), (5, .int p5)]) hx hb dX12_aligns_223 hl (k := 3) rfl ex_552 (by decide) rfl (fun ls hl => ?_)
                              refine lv_goto (tgt := 32) hx hb dX12_aligns_226 (by decide) ?_
                              exact ih_hloop_358 x_552 (by constructor <;> omega) f_545 hG _ _ hP hS hD hfr0 hfo_548 (by omega) ls (lv_sub hl [0, 4, 5, 6, 7, 8, 9] rfl)
                            · skip
                              rw [← Int32.toInt_inj, ti_0] at c_551
                              refine lv_aload_n hx hb dX12_aligns_172 rfl (lv_at hl 4 rfl) ?_
                              refine lv_iload hx hb dX12_aligns_173 (lv_at hl 2 rfl) ?_
                              refine lv_if_ne (tgt := 182) hx hb dX12_aligns_175 (by decide) (fun c_553 => ?_) (fun c_553 => ?_)
                              · skip
                                rw [← Int32.toInt_inj, ti_0] at c_553
                                exfalso
                                omega
                              · skip
                                rw [← Int32.toInt_inj, ti_0] at c_553
                                refine lv_iload_n hx hb dX12_aligns_178 rfl (lv_at hl 5 rfl) ?_
                                refine lv_goto (tgt := 185) hx hb dX12_aligns_179 (by decide) ?_
                                refine lv_iload hx hb dX12_aligns_185 (lv_at hl 1 rfl) ?_
                                refine lv_if_ne (tgt := 194) hx hb dX12_aligns_187 (by decide) (fun c_554 => ?_) (fun c_554 => ?_)
                                · skip
                                  rw [← Int32.toInt_inj, ti_0] at c_554
                                  refine lv_iload_n hx hb dX12_aligns_194 rfl (lv_at hl 6 rfl) ?_
                                  refine lv_iconst (v := 1) hx hb dX12_aligns_195 (by decide) ?_
                                  refine lv_iadd hx hb dX12_aligns_196 ?_
                                  refine lv_topi (fun x_555 ex_555 => ?_)
                                  have hx_555 : x_555.toInt = p2.toInt + 1 := by rw [ex_555, ad_I (by rw [ti_1]; omega) (by rw [ti_1]; omega), ti_1]
                                  have bx_555 : (1 ≤ x_555.toInt ∧ x_555.toInt ≤ 8) := by constructor <;> omega
                                  refine lv_iload hx hb dX12_aligns_197 (lv_at hl 0 rfl) ?_
                                  refine lv_if_eq (tgt := 208) hx hb dX12_aligns_199 (by decide) (fun c_556 => ?_) (fun c_556 => ?_)
                                  · skip
                                    rw [← Int32.toInt_inj, ti_0] at c_556
                                    exfalso
                                    omega
                                  · skip
                                    rw [← Int32.toInt_inj, ti_0] at c_556
                                    refine lv_iload_n hx hb dX12_aligns_202 rfl (lv_at hl 7 rfl) ?_
                                    refine lv_iconst (v := 1) hx hb dX12_aligns_203 (by decide) ?_
                                    refine lv_isub hx hb dX12_aligns_204 ?_
                                    refine lv_topi (fun x_557 ex_557 => ?_)
                                    have hx_557 : x_557.toInt = p3.toInt - 1 := by rw [ex_557, sb_I (by rw [ti_1]; omega) (by rw [ti_1]; omega), ti_1]
                                    have bx_557 : (0 ≤ x_557.toInt ∧ x_557.toInt ≤ 0) := by constructor <;> omega
                                    refine lv_goto (tgt := 209) hx hb dX12_aligns_205 (by decide) ?_
                                    refine lv_iload hx hb dX12_aligns_209 (lv_at hl 8 rfl) ?_
                                    refine lv_iconst (v := 1) hx hb dX12_aligns_211 (by decide) ?_
                                    refine lv_iadd hx hb dX12_aligns_212 ?_
                                    refine lv_topi (fun x_558 ex_558 => ?_)
                                    have hx_558 : x_558.toInt = p4.toInt + 1 := by rw [ex_558, ad_I (by rw [ti_1]; omega) (by rw [ti_1]; omega), ti_1]
                                    have bx_558 : (1 ≤ x_558.toInt ∧ x_558.toInt ≤ 14) := by constructor <;> omega
                                    have hclc_559 : (1 ≤ x_558.toInt ∧ x_558.toInt ≤ 13) := by constructor <;> omega
                                    refine lv_iload hx hb dX12_aligns_213 (lv_at hl 9 rfl) ?_
                                    refine tk_ViP (As := [.int p1, .int x_555, .int x_557, .int x_558, .int p5]) (rest := []) (n := 5) hx hb hml hown hU hN hZ (ih_rec f_545 hG o0 mo0 ko0 p1 (by constructor <;> omega) x_555 (by constructor <;> omega) x_557 (by constructor <;> omega) x_558 (by constructor <;> omega) p5 (by intro w23 w35 e23 e35; rw [hfo_548] at e23 e35; obtain rfl := Option.some.inj e23; obtain rfl := Option.some.inj e35; omega) (by omega) (by omega)) wd_1054 wd_1055 wd_1056 wd_5 wd_1057 (by decide +kernel) ⟨(show (5 + n_) + 1 ≤ 5 + (n_ + 1) by omega), (show 8 + (10 + 11) + (129 + n_ * 29) ≤ 129 + (n_ + 1) * 29 by omega)⟩ hK hP hD hS mo0 hfo_548 12 rfl rfl rfl hl.1 rfl (Nat.le_of_ble_eq_true rfl) dX12_aligns_215 ⟨Nat.le_of_ble_eq_true rfl, Nat.le_of_ble_eq_true rfl⟩ (fun x_560 f_561 H locs hw hP hD hS => ?_)
                                    obtain ⟨hG, bx_560, hkc_562⟩ := hw
                                    have hfo_564 : f_561 o0 = .inr (12, [.ref a_2, .ref a_3, .ref a_4, .int v_5, .ref a_6, .int v_7, .int v_8, .int v_9, .int v_10, .int v_11, .int v_12, .int v_13, .int v_14, .int v_15, .int v_16, .ref a_17, .ref a_18, .ref a_19, .ref a_20, .ref a_21, .ref a_22, .ref a_23, .ref a_24, .int v_25, .int v_26, .int v_27, .int v_28, .int v_29, .ref a_30, .int v_31, .ref a_32, .ref a_33, .int v_34, .int v_35, .ref a_36, .int v_37, .ref a_38, .ref a_39, .int v_40, .int v_41, .ref a_42, .ref a_43, .ref a_44, .int v_45, .ref a_46, .ref a_47, .ref a_48, .ref a_49, .ref a_50, .ref a_51, .ref a_52, .ref a_53, .ref a_54, .int v_55, .int v_56, .ref a_57]) := by rw [hkc_562 o0 (by rw [ko0]; decide) (by rw [ko0]; decide) (by rw [ko0]; decide) (by rw [ko0]; decide) (by rw [ko0]; decide) (by rw [ko0]; decide)]; exact hfo_548
                                    have hfo_565 : f_561 a_2 = .inl (cI, 1560, .inl g_364) := by rw [hkc_562 a_2 (by rw [ka_2]; decide) (by rw [ka_2]; decide) (by rw [ka_2]; decide) (by rw [ka_2]; decide) (by rw [ka_2]; decide) (by rw [ka_2]; decide)]; exact hfo_549
                                    have hfo_566 : f_561 a_36 = .inl (cI, 16, .inl g_539) := by rw [hkc_562 a_36 (by rw [ka_36]; decide) (by rw [ka_36]; decide) (by rw [ka_36]; decide) (by rw [ka_36]; decide) (by rw [ka_36]; decide) (by rw [ka_36]; decide)]; exact hfo_550
                                    have hfr0 : ∀ b, kd b ≠ 579 → kd b ≠ 581 → kd b ≠ 583 → kd b ≠ 585 → kd b ≠ 587 → kd b ≠ 588 → f_561 b = f b := fun b q579 q581 q583 q585 q587 q588 => (hkc_562 b q579 q581 q583 q585 q587 q588).trans (hfr0 b q579 q581 q583 q585 q587 q588)
                                    refine lv_if_eq (tgt := 223) hx hb dX12_aligns_218 (by decide) (fun c_567 => ?_) (fun c_567 => ?_)
                                    · skip
                                      rw [← Int32.toInt_inj, ti_0] at c_567
                                      obtain ⟨x_568, ex_568⟩ : ∃ y : Int32, y_359 + 1 = y := ⟨_, rfl⟩
                                      have hx_568 : x_568.toInt = y_359.toInt + 1 := by rw [← ex_568, ad_I (by rw [ti_1]; omega) (by rw [ti_1]; omega), ti_1]
                                      have bx_568 : (1 ≤ x_568.toInt ∧ x_568.toInt ≤ 20) := by constructor <;> omega
                                      refine lv_iinc (v := x_568) (lv' := [(6, .int x_568), (9, .int y_373), (8, .int x_372), (7, .int x_369), (0, .ref o0), (1, .int p1), (2, .int p2), (3, .int p3), (4, .int p4), (5, .int p5)]) hx hb dX12_aligns_223 hl (k := 3) rfl ex_568 (by decide) rfl (fun ls hl => ?_)
                                      refine lv_goto (tgt := 32) hx hb dX12_aligns_226 (by decide) ?_
                                      exact ih_hloop_358 x_568 (by constructor <;> omega) f_561 hG _ _ hP hS hD hfr0 hfo_564 (by omega) ls (lv_sub hl [0, 4, 5, 6, 7, 8, 9] rfl)
                                    · skip
                                      rw [← Int32.toInt_inj, ti_0] at c_567
                                      refine lv_iconst (v := 1) hx hb dX12_aligns_221 (by decide) ?_
                                      exact W.zret (v := 1) (ty := .boolean) hx hb hr rfl (fun t ht hW => ⟨⟨1, f_561, rfl, ⟨hG, (by decide), hfr0⟩, by rw [ht]; exact hP, va_K.moved hW.alike hK, pl_in hD⟩, hS.F ht⟩) hS.2.2 dX12_aligns_222
                                · skip
                                  rw [← Int32.toInt_inj, ti_0] at c_554
                                  exfalso
                                  omega
                          · skip
                            rw [← Int32.toInt_inj] at c_541
                            refine lv_goto (tgt := 223) hx hb dX12_aligns_148 (by decide) ?_
                            obtain ⟨x_569, ex_569⟩ : ∃ y : Int32, y_359 + 1 = y := ⟨_, rfl⟩
                            have hx_569 : x_569.toInt = y_359.toInt + 1 := by rw [← ex_569, ad_I (by rw [ti_1]; omega) (by rw [ti_1]; omega), ti_1]
                            have bx_569 : (1 ≤ x_569.toInt ∧ x_569.toInt ≤ 20) := by constructor <;> omega
                            refine lv_iinc (v := x_569) (lv' := [(6, .int x_569), (9, .int y_373), (8, .int x_372), (7, .int x_369), (0, .ref o0), (1, .int p1), (2, .int p2), (3, .int p3), (4, .int p4), (5, .int p5)]) hx hb dX12_aligns_223 hl (k := 3) rfl ex_569 (by decide) rfl (fun ls hl => ?_)
                            refine lv_goto (tgt := 32) hx hb dX12_aligns_226 (by decide) ?_
                            exact ih_hloop_358 x_569 (by constructor <;> omega) f_361 hG _ _ hP hS hD hfr0 hfo_362 (by omega) ls (lv_sub hl [0, 4, 5, 6, 7, 8, 9] rfl)
                    · skip
                      rw [← Int32.toInt_inj, ti_0] at c_509
                      refine lv_iload_n hx hb dX12_aligns_105 rfl (lv_at hl 5 rfl) ?_
                      refine lv_aload_n hx hb dX12_aligns_106 rfl (lv_at hl 4 rfl) ?_
                      refine tk_getP (D := (dC, dI)) (ci := 12) (v := .int v_25) (C := RX12) (T := TX12) (N := 56) hx hb hU inlX12 hown hK hP mo0 hfo_362 rfl 23 (by decide) (hU _ wd_867) (fun _ h9 => h9) rfl dX12_aligns_107 ?_
                      refine lv_icmp_eq (tgt := 223) hx hb dX12_aligns_110 (by decide) (fun c_570 => ?_) (fun c_570 => ?_)
                      · skip
                        rw [← Int32.toInt_inj] at c_570
                        obtain ⟨x_571, ex_571⟩ : ∃ y : Int32, y_359 + 1 = y := ⟨_, rfl⟩
                        have hx_571 : x_571.toInt = y_359.toInt + 1 := by rw [← ex_571, ad_I (by rw [ti_1]; omega) (by rw [ti_1]; omega), ti_1]
                        have bx_571 : (1 ≤ x_571.toInt ∧ x_571.toInt ≤ 20) := by constructor <;> omega
                        refine lv_iinc (v := x_571) (lv' := [(6, .int x_571), (9, .int y_373), (8, .int x_372), (7, .int x_369), (0, .ref o0), (1, .int p1), (2, .int p2), (3, .int p3), (4, .int p4), (5, .int p5)]) hx hb dX12_aligns_223 hl (k := 3) rfl ex_571 (by decide) rfl (fun ls hl => ?_)
                        refine lv_goto (tgt := 32) hx hb dX12_aligns_226 (by decide) ?_
                        exact ih_hloop_358 x_571 (by constructor <;> omega) f_361 hG _ _ hP hS hD hfr0 hfo_362 (by omega) ls (lv_sub hl [0, 4, 5, 6, 7, 8, 9] rfl)
                      · skip
                        rw [← Int32.toInt_inj] at c_570
                        have hclc_572 : (0 ≤ p1.toInt ∧ p1.toInt ≤ 11) := by constructor <;> omega
                        refine lv_aload_n hx hb dX12_aligns_113 rfl (lv_at hl 4 rfl) ?_
                        refine tk_getP (D := (dC, dI)) (ci := 12) (v := .ref a_23) (C := RX12) (T := TX12) (N := 56) hx hb hU inlX12 hown hK hP mo0 hfo_362 rfl 21 (by decide) (hU _ wd_181) (fun _ h9 => h9) rfl dX12_aligns_114 ?_
                        refine lv_iload_n hx hb dX12_aligns_117 rfl (lv_at hl 5 rfl) ?_
                        obtain ⟨g_574, hfo_573, hbg_574⟩ := un_589 (hG _ ma_23) ka_23
                        refine tk_ildP hx hb hK hP 0 ma_23 hfo_573 rfl (vp_in_iff.mpr (by constructor <;> omega)) dX12_aligns_118 ?_
                        refine lv_topi (fun x_575 ex_575 => ?_)
                        have bx_575 : (0 ≤ x_575.toInt ∧ x_575.toInt ≤ 8) := by rw [ex_575]; exact hbg_574 _
                        refine lv_iload hx hb dX12_aligns_119 (lv_at hl 2 rfl) ?_
                        refine lv_icmp_ne (tgt := 223) hx hb dX12_aligns_121 (by decide) (fun c_576 => ?_) (fun c_576 => ?_)
                        · skip
                          rw [← Int32.toInt_inj] at c_576
                          obtain ⟨x_577, ex_577⟩ : ∃ y : Int32, y_359 + 1 = y := ⟨_, rfl⟩
                          have hx_577 : x_577.toInt = y_359.toInt + 1 := by rw [← ex_577, ad_I (by rw [ti_1]; omega) (by rw [ti_1]; omega), ti_1]
                          have bx_577 : (1 ≤ x_577.toInt ∧ x_577.toInt ≤ 20) := by constructor <;> omega
                          refine lv_iinc (v := x_577) (lv' := [(6, .int x_577), (9, .int y_373), (8, .int x_372), (7, .int x_369), (0, .ref o0), (1, .int p1), (2, .int p2), (3, .int p3), (4, .int p4), (5, .int p5)]) hx hb dX12_aligns_223 hl (k := 3) rfl ex_577 (by decide) rfl (fun ls hl => ?_)
                          refine lv_goto (tgt := 32) hx hb dX12_aligns_226 (by decide) ?_
                          exact ih_hloop_358 x_577 (by constructor <;> omega) f_361 hG _ _ hP hS hD hfr0 hfo_362 (by omega) ls (lv_sub hl [0, 4, 5, 6, 7, 8, 9] rfl)
                        · skip
                          rw [← Int32.toInt_inj] at c_576
                          refine lv_iload hx hb dX12_aligns_124 (lv_at hl 1 rfl) ?_
                          refine lv_if_eq (tgt := 151) hx hb dX12_aligns_126 (by decide) (fun c_578 => ?_) (fun c_578 => ?_)
                          · skip
                            rw [← Int32.toInt_inj, ti_0] at c_578
                            refine lv_aload_n hx hb dX12_aligns_151 rfl (lv_at hl 4 rfl) ?_
                            refine lv_iload hx hb dX12_aligns_152 (lv_at hl 8 rfl) ?_
                            refine lv_aload_n hx hb dX12_aligns_154 rfl (lv_at hl 4 rfl) ?_
                            refine tk_getP (D := (dC, dI)) (ci := 12) (v := .ref a_2) (C := RX12) (T := TX12) (N := 56) hx hb hU inlX12 hown hK hP mo0 hfo_362 rfl 0 (by decide) (hU _ wd_169) (fun _ h9 => h9) rfl dX12_aligns_155 ?_
                            refine lv_bipush (v := 20) hx hb dX12_aligns_158 (by decide) ?_
                            refine lv_iload hx hb dX12_aligns_160 (lv_at hl 3 rfl) ?_
                            refine lv_iadd hx hb dX12_aligns_162 ?_
                            refine lv_topi (fun x_579 ex_579 => ?_)
                            have hx_579 : x_579.toInt = 20 + y_359.toInt := by rw [ex_579, ad_I (by rw [ti_20]; omega) (by rw [ti_20]; omega), ti_20]
                            have bx_579 : (20 ≤ x_579.toInt ∧ x_579.toInt ≤ 39) := by constructor <;> omega
                            refine tk_ildP hx hb hK hP 0 ma_2 hfo_363 rfl (vp_in_iff.mpr (by constructor <;> omega)) dX12_aligns_163 ?_
                            refine lv_topi (fun x_580 ex_580 => ?_)
                            have bx_580 : (0 ≤ x_580.toInt ∧ x_580.toInt ≤ 80) := by have hc9 := cl_I (i := x_579) (by omega); rw [ex_580]; exact hbg_364.2.2.2.2.2.1 _ (by omega) (by omega) (by omega)
                            refine lv_iload hx hb dX12_aligns_164 (lv_at hl 9 rfl) ?_
                            refine tk_ViP (As := [.int p4, .int x_580, .int p5]) (rest := []) (n := 3) hx hb hml hown hU hN hZ (s_X12_reads_k12 l (dC, dI) cI cL cZ cR cG cH Z kd L f_361 hG o0 mo0 ko0 p4 (by constructor <;> omega) x_580 p5) wd_950 wd_951 wd_952 wd_5 wd_953 (by decide +kernel) ⟨(show 4 + 1 ≤ 5 + (n_ + 1) by omega), (show 8 + (5 + 11) + 105 ≤ 129 + (n_ + 1) * 29 by omega)⟩ hK hP hD hS mo0 hfo_362 12 rfl rfl rfl hl.1 rfl (Nat.le_of_ble_eq_true rfl) dX12_aligns_166 ⟨Nat.le_of_ble_eq_true rfl, Nat.le_of_ble_eq_true rfl⟩ (fun x_581 f_582 H locs hw hP hD hS => ?_)
                            obtain ⟨hG, bx_581, hkc_583⟩ := hw
                            have hfo_585 : f_582 o0 = .inr (12, [.ref a_2, .ref a_3, .ref a_4, .int v_5, .ref a_6, .int v_7, .int v_8, .int v_9, .int v_10, .int v_11, .int v_12, .int v_13, .int v_14, .int v_15, .int v_16, .ref a_17, .ref a_18, .ref a_19, .ref a_20, .ref a_21, .ref a_22, .ref a_23, .ref a_24, .int v_25, .int v_26, .int v_27, .int v_28, .int v_29, .ref a_30, .int v_31, .ref a_32, .ref a_33, .int v_34, .int v_35, .ref a_36, .int v_37, .ref a_38, .ref a_39, .int v_40, .int v_41, .ref a_42, .ref a_43, .ref a_44, .int v_45, .ref a_46, .ref a_47, .ref a_48, .ref a_49, .ref a_50, .ref a_51, .ref a_52, .ref a_53, .ref a_54, .int v_55, .int v_56, .ref a_57]) := by rw [hkc_583 o0 (by rw [ko0]; decide) (by rw [ko0]; decide) (by rw [ko0]; decide) (by rw [ko0]; decide) (by rw [ko0]; decide) (by rw [ko0]; decide)]; exact hfo_362
                            have hfo_586 : f_582 a_2 = .inl (cI, 1560, .inl g_364) := by rw [hkc_583 a_2 (by rw [ka_2]; decide) (by rw [ka_2]; decide) (by rw [ka_2]; decide) (by rw [ka_2]; decide) (by rw [ka_2]; decide) (by rw [ka_2]; decide)]; exact hfo_363
                            have hfo_587 : f_582 a_23 = .inl (cI, 16, .inl g_574) := by rw [hkc_583 a_23 (by rw [ka_23]; decide) (by rw [ka_23]; decide) (by rw [ka_23]; decide) (by rw [ka_23]; decide) (by rw [ka_23]; decide) (by rw [ka_23]; decide)]; exact hfo_573
                            have hfr0 : ∀ b, kd b ≠ 579 → kd b ≠ 581 → kd b ≠ 583 → kd b ≠ 585 → kd b ≠ 587 → kd b ≠ 588 → f_582 b = f b := fun b q579 q581 q583 q585 q587 q588 => (hkc_583 b q579 q581 q583 q585 q587 q588).trans (hfr0 b q579 q581 q583 q585 q587 q588)
                            refine lv_if_eq (tgt := 223) hx hb dX12_aligns_169 (by decide) (fun c_588 => ?_) (fun c_588 => ?_)
                            · skip
                              rw [← Int32.toInt_inj, ti_0] at c_588
                              obtain ⟨x_589, ex_589⟩ : ∃ y : Int32, y_359 + 1 = y := ⟨_, rfl⟩
                              have hx_589 : x_589.toInt = y_359.toInt + 1 := by rw [← ex_589, ad_I (by rw [ti_1]; omega) (by rw [ti_1]; omega), ti_1]
                              have bx_589 : (1 ≤ x_589.toInt ∧ x_589.toInt ≤ 20) := by constructor <;> omega
                              refine lv_iinc (v := x_589) (lv' := [(6, .int x_589), (9, .int y_373), (8, .int x_372), (7, .int x_369), (0, .ref o0), (1, .int p1), (2, .int p2), (3, .int p3), (4, .int p4), (5, .int p5)]) hx hb dX12_aligns_223 hl (k := 3) rfl ex_589 (by decide) rfl (fun ls hl => ?_)
                              refine lv_goto (tgt := 32) hx hb dX12_aligns_226 (by decide) ?_
                              exact ih_hloop_358 x_589 (by constructor <;> omega) f_582 hG _ _ hP hS hD hfr0 hfo_585 (by omega) ls (lv_sub hl [0, 4, 5, 6, 7, 8, 9] rfl)
                            · skip
                              rw [← Int32.toInt_inj, ti_0] at c_588
                              refine lv_aload_n hx hb dX12_aligns_172 rfl (lv_at hl 4 rfl) ?_
                              refine lv_iload hx hb dX12_aligns_173 (lv_at hl 2 rfl) ?_
                              refine lv_if_ne (tgt := 182) hx hb dX12_aligns_175 (by decide) (fun c_590 => ?_) (fun c_590 => ?_)
                              · skip
                                rw [← Int32.toInt_inj, ti_0] at c_590
                                refine lv_iload_n hx hb dX12_aligns_182 rfl (lv_at hl 5 rfl) ?_
                                refine lv_iconst (v := 1) hx hb dX12_aligns_183 (by decide) ?_
                                refine lv_iadd hx hb dX12_aligns_184 ?_
                                refine lv_topi (fun x_591 ex_591 => ?_)
                                have hx_591 : x_591.toInt = p1.toInt + 1 := by rw [ex_591, ad_I (by rw [ti_1]; omega) (by rw [ti_1]; omega), ti_1]
                                have bx_591 : (1 ≤ x_591.toInt ∧ x_591.toInt ≤ 12) := by constructor <;> omega
                                refine lv_iload hx hb dX12_aligns_185 (lv_at hl 1 rfl) ?_
                                refine lv_if_ne (tgt := 194) hx hb dX12_aligns_187 (by decide) (fun c_592 => ?_) (fun c_592 => ?_)
                                · skip
                                  rw [← Int32.toInt_inj, ti_0] at c_592
                                  exfalso
                                  omega
                                · skip
                                  rw [← Int32.toInt_inj, ti_0] at c_592
                                  refine lv_iload_n hx hb dX12_aligns_190 rfl (lv_at hl 6 rfl) ?_
                                  refine lv_goto (tgt := 197) hx hb dX12_aligns_191 (by decide) ?_
                                  refine lv_iload hx hb dX12_aligns_197 (lv_at hl 0 rfl) ?_
                                  refine lv_if_eq (tgt := 208) hx hb dX12_aligns_199 (by decide) (fun c_593 => ?_) (fun c_593 => ?_)
                                  · skip
                                    rw [← Int32.toInt_inj, ti_0] at c_593
                                    exfalso
                                    omega
                                  · skip
                                    rw [← Int32.toInt_inj, ti_0] at c_593
                                    refine lv_iload_n hx hb dX12_aligns_202 rfl (lv_at hl 7 rfl) ?_
                                    refine lv_iconst (v := 1) hx hb dX12_aligns_203 (by decide) ?_
                                    refine lv_isub hx hb dX12_aligns_204 ?_
                                    refine lv_topi (fun x_594 ex_594 => ?_)
                                    have hx_594 : x_594.toInt = p3.toInt - 1 := by rw [ex_594, sb_I (by rw [ti_1]; omega) (by rw [ti_1]; omega), ti_1]
                                    have bx_594 : (0 ≤ x_594.toInt ∧ x_594.toInt ≤ 0) := by constructor <;> omega
                                    refine lv_goto (tgt := 209) hx hb dX12_aligns_205 (by decide) ?_
                                    refine lv_iload hx hb dX12_aligns_209 (lv_at hl 8 rfl) ?_
                                    refine lv_iconst (v := 1) hx hb dX12_aligns_211 (by decide) ?_
                                    refine lv_iadd hx hb dX12_aligns_212 ?_
                                    refine lv_topi (fun x_595 ex_595 => ?_)
                                    have hx_595 : x_595.toInt = p4.toInt + 1 := by rw [ex_595, ad_I (by rw [ti_1]; omega) (by rw [ti_1]; omega), ti_1]
                                    have bx_595 : (1 ≤ x_595.toInt ∧ x_595.toInt ≤ 14) := by constructor <;> omega
                                    have hclc_596 : (1 ≤ x_595.toInt ∧ x_595.toInt ≤ 13) := by constructor <;> omega
                                    refine lv_iload hx hb dX12_aligns_213 (lv_at hl 9 rfl) ?_
                                    refine tk_ViP (As := [.int x_591, .int p2, .int x_594, .int x_595, .int p5]) (rest := []) (n := 5) hx hb hml hown hU hN hZ (ih_rec f_582 hG o0 mo0 ko0 x_591 (by constructor <;> omega) p2 (by constructor <;> omega) x_594 (by constructor <;> omega) x_595 (by constructor <;> omega) p5 (by intro w23 w35 e23 e35; rw [hfo_585] at e23 e35; obtain rfl := Option.some.inj e23; obtain rfl := Option.some.inj e35; omega) (by omega) (by omega)) wd_1054 wd_1055 wd_1056 wd_5 wd_1057 (by decide +kernel) ⟨(show (5 + n_) + 1 ≤ 5 + (n_ + 1) by omega), (show 8 + (10 + 11) + (129 + n_ * 29) ≤ 129 + (n_ + 1) * 29 by omega)⟩ hK hP hD hS mo0 hfo_585 12 rfl rfl rfl hl.1 rfl (Nat.le_of_ble_eq_true rfl) dX12_aligns_215 ⟨Nat.le_of_ble_eq_true rfl, Nat.le_of_ble_eq_true rfl⟩ (fun x_597 f_598 H locs hw hP hD hS => ?_)
                                    obtain ⟨hG, bx_597, hkc_599⟩ := hw
                                    have hfo_601 : f_598 o0 = .inr (12, [.ref a_2, .ref a_3, .ref a_4, .int v_5, .ref a_6, .int v_7, .int v_8, .int v_9, .int v_10, .int v_11, .int v_12, .int v_13, .int v_14, .int v_15, .int v_16, .ref a_17, .ref a_18, .ref a_19, .ref a_20, .ref a_21, .ref a_22, .ref a_23, .ref a_24, .int v_25, .int v_26, .int v_27, .int v_28, .int v_29, .ref a_30, .int v_31, .ref a_32, .ref a_33, .int v_34, .int v_35, .ref a_36, .int v_37, .ref a_38, .ref a_39, .int v_40, .int v_41, .ref a_42, .ref a_43, .ref a_44, .int v_45, .ref a_46, .ref a_47, .ref a_48, .ref a_49, .ref a_50, .ref a_51, .ref a_52, .ref a_53, .ref a_54, .int v_55, .int v_56, .ref a_57]) := by rw [hkc_599 o0 (by rw [ko0]; decide) (by rw [ko0]; decide) (by rw [ko0]; decide) (by rw [ko0]; decide) (by rw [ko0]; decide) (by rw [ko0]; decide)]; exact hfo_585
                                    have hfo_602 : f_598 a_2 = .inl (cI, 1560, .inl g_364) := by rw [hkc_599 a_2 (by rw [ka_2]; decide) (by rw [ka_2]; decide) (by rw [ka_2]; decide) (by rw [ka_2]; decide) (by rw [ka_2]; decide) (by rw [ka_2]; decide)]; exact hfo_586
                                    have hfo_603 : f_598 a_23 = .inl (cI, 16, .inl g_574) := by rw [hkc_599 a_23 (by rw [ka_23]; decide) (by rw [ka_23]; decide) (by rw [ka_23]; decide) (by rw [ka_23]; decide) (by rw [ka_23]; decide) (by rw [ka_23]; decide)]; exact hfo_587
                                    have hfr0 : ∀ b, kd b ≠ 579 → kd b ≠ 581 → kd b ≠ 583 → kd b ≠ 585 → kd b ≠ 587 → kd b ≠ 588 → f_598 b = f b := fun b q579 q581 q583 q585 q587 q588 => (hkc_599 b q579 q581 q583 q585 q587 q588).trans (hfr0 b q579 q581 q583 q585 q587 q588)
                                    refine lv_if_eq (tgt := 223) hx hb dX12_aligns_218 (by decide) (fun c_604 => ?_) (fun c_604 => ?_)
                                    · skip
                                      rw [← Int32.toInt_inj, ti_0] at c_604
                                      obtain ⟨x_605, ex_605⟩ : ∃ y : Int32, y_359 + 1 = y := ⟨_, rfl⟩
                                      have hx_605 : x_605.toInt = y_359.toInt + 1 := by rw [← ex_605, ad_I (by rw [ti_1]; omega) (by rw [ti_1]; omega), ti_1]
                                      have bx_605 : (1 ≤ x_605.toInt ∧ x_605.toInt ≤ 20) := by constructor <;> omega
                                      refine lv_iinc (v := x_605) (lv' := [(6, .int x_605), (9, .int y_373), (8, .int x_372), (7, .int x_369), (0, .ref o0), (1, .int p1), (2, .int p2), (3, .int p3), (4, .int p4), (5, .int p5)]) hx hb dX12_aligns_223 hl (k := 3) rfl ex_605 (by decide) rfl (fun ls hl => ?_)
                                      refine lv_goto (tgt := 32) hx hb dX12_aligns_226 (by decide) ?_
                                      exact ih_hloop_358 x_605 (by constructor <;> omega) f_598 hG _ _ hP hS hD hfr0 hfo_601 (by omega) ls (lv_sub hl [0, 4, 5, 6, 7, 8, 9] rfl)
                                    · skip
                                      rw [← Int32.toInt_inj, ti_0] at c_604
                                      refine lv_iconst (v := 1) hx hb dX12_aligns_221 (by decide) ?_
                                      exact W.zret (v := 1) (ty := .boolean) hx hb hr rfl (fun t ht hW => ⟨⟨1, f_598, rfl, ⟨hG, (by decide), hfr0⟩, by rw [ht]; exact hP, va_K.moved hW.alike hK, pl_in hD⟩, hS.F ht⟩) hS.2.2 dX12_aligns_222
                              · skip
                                rw [← Int32.toInt_inj, ti_0] at c_590
                                exfalso
                                omega
                          · skip
                            rw [← Int32.toInt_inj, ti_0] at c_578
                            refine lv_iload_n hx hb dX12_aligns_129 rfl (lv_at hl 6 rfl) ?_
                            refine lv_aload_n hx hb dX12_aligns_130 rfl (lv_at hl 4 rfl) ?_
                            refine tk_getP (D := (dC, dI)) (ci := 12) (v := .int v_37) (C := RX12) (T := TX12) (N := 56) hx hb hU inlX12 hown hK hP mo0 hfo_362 rfl 35 (by decide) (hU _ wd_1049) (fun _ h9 => h9) rfl dX12_aligns_131 ?_
                            refine lv_icmp_eq (tgt := 223) hx hb dX12_aligns_134 (by decide) (fun c_606 => ?_) (fun c_606 => ?_)
                            · skip
                              rw [← Int32.toInt_inj] at c_606
                              obtain ⟨x_607, ex_607⟩ : ∃ y : Int32, y_359 + 1 = y := ⟨_, rfl⟩
                              have hx_607 : x_607.toInt = y_359.toInt + 1 := by rw [← ex_607, ad_I (by rw [ti_1]; omega) (by rw [ti_1]; omega), ti_1]
                              have bx_607 : (1 ≤ x_607.toInt ∧ x_607.toInt ≤ 20) := by constructor <;> omega
                              refine lv_iinc (v := x_607) (lv' := [(6, .int x_607), (9, .int y_373), (8, .int x_372), (7, .int x_369), (0, .ref o0), (1, .int p1), (2, .int p2), (3, .int p3), (4, .int p4), (5, .int p5)]) hx hb dX12_aligns_223 hl (k := 3) rfl ex_607 (by decide) rfl (fun ls hl => ?_)
                              refine lv_goto (tgt := 32) hx hb dX12_aligns_226 (by decide) ?_
                              exact ih_hloop_358 x_607 (by constructor <;> omega) f_361 hG _ _ hP hS hD hfr0 hfo_362 (by omega) ls (lv_sub hl [0, 4, 5, 6, 7, 8, 9] rfl)
                            · skip
                              rw [← Int32.toInt_inj] at c_606
                              have hclc_608 : (0 ≤ p2.toInt ∧ p2.toInt ≤ 7) := by constructor <;> omega
                              refine lv_aload_n hx hb dX12_aligns_137 rfl (lv_at hl 4 rfl) ?_
                              refine tk_getP (D := (dC, dI)) (ci := 12) (v := .ref a_36) (C := RX12) (T := TX12) (N := 56) hx hb hU inlX12 hown hK hP mo0 hfo_362 rfl 34 (by decide) (hU _ wd_186) (fun _ h9 => h9) rfl dX12_aligns_138 ?_
                              refine lv_iload_n hx hb dX12_aligns_141 rfl (lv_at hl 6 rfl) ?_
                              obtain ⟨g_610, hfo_609, hbg_610⟩ := un_594 (hG _ ma_36) ka_36
                              refine tk_ildP hx hb hK hP 0 ma_36 hfo_609 rfl (vp_in_iff.mpr (by constructor <;> omega)) dX12_aligns_142 ?_
                              refine lv_topi (fun x_611 ex_611 => ?_)
                              have bx_611 : (0 ≤ x_611.toInt ∧ x_611.toInt ≤ 8) := by rw [ex_611]; exact hbg_610 _
                              refine lv_iload hx hb dX12_aligns_143 (lv_at hl 1 rfl) ?_
                              refine lv_icmp_eq (tgt := 151) hx hb dX12_aligns_145 (by decide) (fun c_612 => ?_) (fun c_612 => ?_)
                              · skip
                                rw [← Int32.toInt_inj] at c_612
                                refine lv_aload_n hx hb dX12_aligns_151 rfl (lv_at hl 4 rfl) ?_
                                refine lv_iload hx hb dX12_aligns_152 (lv_at hl 8 rfl) ?_
                                refine lv_aload_n hx hb dX12_aligns_154 rfl (lv_at hl 4 rfl) ?_
                                refine tk_getP (D := (dC, dI)) (ci := 12) (v := .ref a_2) (C := RX12) (T := TX12) (N := 56) hx hb hU inlX12 hown hK hP mo0 hfo_362 rfl 0 (by decide) (hU _ wd_169) (fun _ h9 => h9) rfl dX12_aligns_155 ?_
                                refine lv_bipush (v := 20) hx hb dX12_aligns_158 (by decide) ?_
                                refine lv_iload hx hb dX12_aligns_160 (lv_at hl 3 rfl) ?_
                                refine lv_iadd hx hb dX12_aligns_162 ?_
                                refine lv_topi (fun x_613 ex_613 => ?_)
                                have hx_613 : x_613.toInt = 20 + y_359.toInt := by rw [ex_613, ad_I (by rw [ti_20]; omega) (by rw [ti_20]; omega), ti_20]
                                have bx_613 : (20 ≤ x_613.toInt ∧ x_613.toInt ≤ 39) := by constructor <;> omega
                                refine tk_ildP hx hb hK hP 0 ma_2 hfo_363 rfl (vp_in_iff.mpr (by constructor <;> omega)) dX12_aligns_163 ?_
                                refine lv_topi (fun x_614 ex_614 => ?_)
                                have bx_614 : (0 ≤ x_614.toInt ∧ x_614.toInt ≤ 80) := by have hc9 := cl_I (i := x_613) (by omega); rw [ex_614]; exact hbg_364.2.2.2.2.2.1 _ (by omega) (by omega) (by omega)
                                refine lv_iload hx hb dX12_aligns_164 (lv_at hl 9 rfl) ?_
                                refine tk_ViP (As := [.int p4, .int x_614, .int p5]) (rest := []) (n := 3) hx hb hml hown hU hN hZ (s_X12_reads_k12 l (dC, dI) cI cL cZ cR cG cH Z kd L f_361 hG o0 mo0 ko0 p4 (by constructor <;> omega) x_614 p5) wd_950 wd_951 wd_952 wd_5 wd_953 (by decide +kernel) ⟨(show 4 + 1 ≤ 5 + (n_ + 1) by omega), (show 8 + (5 + 11) + 105 ≤ 129 + (n_ + 1) * 29 by omega)⟩ hK hP hD hS mo0 hfo_362 12 rfl rfl rfl hl.1 rfl (Nat.le_of_ble_eq_true rfl) dX12_aligns_166 ⟨Nat.le_of_ble_eq_true rfl, Nat.le_of_ble_eq_true rfl⟩ (fun x_615 f_616 H locs hw hP hD hS => ?_)
                                obtain ⟨hG, bx_615, hkc_617⟩ := hw
                                have hfo_619 : f_616 o0 = .inr (12, [.ref a_2, .ref a_3, .ref a_4, .int v_5, .ref a_6, .int v_7, .int v_8, .int v_9, .int v_10, .int v_11, .int v_12, .int v_13, .int v_14, .int v_15, .int v_16, .ref a_17, .ref a_18, .ref a_19, .ref a_20, .ref a_21, .ref a_22, .ref a_23, .ref a_24, .int v_25, .int v_26, .int v_27, .int v_28, .int v_29, .ref a_30, .int v_31, .ref a_32, .ref a_33, .int v_34, .int v_35, .ref a_36, .int v_37, .ref a_38, .ref a_39, .int v_40, .int v_41, .ref a_42, .ref a_43, .ref a_44, .int v_45, .ref a_46, .ref a_47, .ref a_48, .ref a_49, .ref a_50, .ref a_51, .ref a_52, .ref a_53, .ref a_54, .int v_55, .int v_56, .ref a_57]) := by rw [hkc_617 o0 (by rw [ko0]; decide) (by rw [ko0]; decide) (by rw [ko0]; decide) (by rw [ko0]; decide) (by rw [ko0]; decide) (by rw [ko0]; decide)]; exact hfo_362
                                have hfo_620 : f_616 a_2 = .inl (cI, 1560, .inl g_364) := by rw [hkc_617 a_2 (by rw [ka_2]; decide) (by rw [ka_2]; decide) (by rw [ka_2]; decide) (by rw [ka_2]; decide) (by rw [ka_2]; decide) (by rw [ka_2]; decide)]; exact hfo_363
                                have hfo_621 : f_616 a_23 = .inl (cI, 16, .inl g_574) := by rw [hkc_617 a_23 (by rw [ka_23]; decide) (by rw [ka_23]; decide) (by rw [ka_23]; decide) (by rw [ka_23]; decide) (by rw [ka_23]; decide) (by rw [ka_23]; decide)]; exact hfo_573
                                have hfo_622 : f_616 a_36 = .inl (cI, 16, .inl g_610) := by rw [hkc_617 a_36 (by rw [ka_36]; decide) (by rw [ka_36]; decide) (by rw [ka_36]; decide) (by rw [ka_36]; decide) (by rw [ka_36]; decide) (by rw [ka_36]; decide)]; exact hfo_609
                                have hfr0 : ∀ b, kd b ≠ 579 → kd b ≠ 581 → kd b ≠ 583 → kd b ≠ 585 → kd b ≠ 587 → kd b ≠ 588 → f_616 b = f b := fun b q579 q581 q583 q585 q587 q588 => (hkc_617 b q579 q581 q583 q585 q587 q588).trans (hfr0 b q579 q581 q583 q585 q587 q588)
                                refine lv_if_eq (tgt := 223) hx hb dX12_aligns_169 (by decide) (fun c_623 => ?_) (fun c_623 => ?_)
                                · skip
                                  rw [← Int32.toInt_inj, ti_0] at c_623
                                  obtain ⟨x_624, ex_624⟩ : ∃ y : Int32, y_359 + 1 = y := ⟨_, rfl⟩
                                  have hx_624 : x_624.toInt = y_359.toInt + 1 := by rw [← ex_624, ad_I (by rw [ti_1]; omega) (by rw [ti_1]; omega), ti_1]
                                  have bx_624 : (1 ≤ x_624.toInt ∧ x_624.toInt ≤ 20) := by constructor <;> omega
                                  refine lv_iinc (v := x_624) (lv' := [(6, .int x_624), (9, .int y_373), (8, .int x_372), (7, .int x_369), (0, .ref o0), (1, .int p1), (2, .int p2), (3, .int p3), (4, .int p4), (5, .int p5)]) hx hb dX12_aligns_223 hl (k := 3) rfl ex_624 (by decide) rfl (fun ls hl => ?_)
                                  refine lv_goto (tgt := 32) hx hb dX12_aligns_226 (by decide) ?_
                                  exact ih_hloop_358 x_624 (by constructor <;> omega) f_616 hG _ _ hP hS hD hfr0 hfo_619 (by omega) ls (lv_sub hl [0, 4, 5, 6, 7, 8, 9] rfl)
                                · skip
                                  rw [← Int32.toInt_inj, ti_0] at c_623
                                  refine lv_aload_n hx hb dX12_aligns_172 rfl (lv_at hl 4 rfl) ?_
                                  refine lv_iload hx hb dX12_aligns_173 (lv_at hl 2 rfl) ?_
                                  refine lv_if_ne (tgt := 182) hx hb dX12_aligns_175 (by decide) (fun c_625 => ?_) (fun c_625 => ?_)
                                  · skip
                                    rw [← Int32.toInt_inj, ti_0] at c_625
                                    refine lv_iload_n hx hb dX12_aligns_182 rfl (lv_at hl 5 rfl) ?_
                                    refine lv_iconst (v := 1) hx hb dX12_aligns_183 (by decide) ?_
                                    refine lv_iadd hx hb dX12_aligns_184 ?_
                                    refine lv_topi (fun x_626 ex_626 => ?_)
                                    have hx_626 : x_626.toInt = p1.toInt + 1 := by rw [ex_626, ad_I (by rw [ti_1]; omega) (by rw [ti_1]; omega), ti_1]
                                    have bx_626 : (1 ≤ x_626.toInt ∧ x_626.toInt ≤ 12) := by constructor <;> omega
                                    refine lv_iload hx hb dX12_aligns_185 (lv_at hl 1 rfl) ?_
                                    refine lv_if_ne (tgt := 194) hx hb dX12_aligns_187 (by decide) (fun c_627 => ?_) (fun c_627 => ?_)
                                    · skip
                                      rw [← Int32.toInt_inj, ti_0] at c_627
                                      refine lv_iload_n hx hb dX12_aligns_194 rfl (lv_at hl 6 rfl) ?_
                                      refine lv_iconst (v := 1) hx hb dX12_aligns_195 (by decide) ?_
                                      refine lv_iadd hx hb dX12_aligns_196 ?_
                                      refine lv_topi (fun x_628 ex_628 => ?_)
                                      have hx_628 : x_628.toInt = p2.toInt + 1 := by rw [ex_628, ad_I (by rw [ti_1]; omega) (by rw [ti_1]; omega), ti_1]
                                      have bx_628 : (1 ≤ x_628.toInt ∧ x_628.toInt ≤ 8) := by constructor <;> omega
                                      refine lv_iload hx hb dX12_aligns_197 (lv_at hl 0 rfl) ?_
                                      refine lv_if_eq (tgt := 208) hx hb dX12_aligns_199 (by decide) (fun c_629 => ?_) (fun c_629 => ?_)
                                      · skip
                                        rw [← Int32.toInt_inj, ti_0] at c_629
                                        exfalso
                                        omega
                                      · skip
                                        rw [← Int32.toInt_inj, ti_0] at c_629
                                        refine lv_iload_n hx hb dX12_aligns_202 rfl (lv_at hl 7 rfl) ?_
                                        refine lv_iconst (v := 1) hx hb dX12_aligns_203 (by decide) ?_
                                        refine lv_isub hx hb dX12_aligns_204 ?_
                                        refine lv_topi (fun x_630 ex_630 => ?_)
                                        have hx_630 : x_630.toInt = p3.toInt - 1 := by rw [ex_630, sb_I (by rw [ti_1]; omega) (by rw [ti_1]; omega), ti_1]
                                        have bx_630 : (0 ≤ x_630.toInt ∧ x_630.toInt ≤ 0) := by constructor <;> omega
                                        refine lv_goto (tgt := 209) hx hb dX12_aligns_205 (by decide) ?_
                                        refine lv_iload hx hb dX12_aligns_209 (lv_at hl 8 rfl) ?_
                                        refine lv_iconst (v := 1) hx hb dX12_aligns_211 (by decide) ?_
                                        refine lv_iadd hx hb dX12_aligns_212 ?_
                                        refine lv_topi (fun x_631 ex_631 => ?_)
                                        have hx_631 : x_631.toInt = p4.toInt + 1 := by rw [ex_631, ad_I (by rw [ti_1]; omega) (by rw [ti_1]; omega), ti_1]
                                        have bx_631 : (1 ≤ x_631.toInt ∧ x_631.toInt ≤ 14) := by constructor <;> omega
                                        have hclc_632 : (1 ≤ x_631.toInt ∧ x_631.toInt ≤ 13) := by constructor <;> omega
                                        refine lv_iload hx hb dX12_aligns_213 (lv_at hl 9 rfl) ?_
                                        refine tk_ViP (As := [.int x_626, .int x_628, .int x_630, .int x_631, .int p5]) (rest := []) (n := 5) hx hb hml hown hU hN hZ (ih_rec f_616 hG o0 mo0 ko0 x_626 (by constructor <;> omega) x_628 (by constructor <;> omega) x_630 (by constructor <;> omega) x_631 (by constructor <;> omega) p5 (by intro w23 w35 e23 e35; rw [hfo_619] at e23 e35; obtain rfl := Option.some.inj e23; obtain rfl := Option.some.inj e35; omega) (by omega) (by omega)) wd_1054 wd_1055 wd_1056 wd_5 wd_1057 (by decide +kernel) ⟨(show (5 + n_) + 1 ≤ 5 + (n_ + 1) by omega), (show 8 + (10 + 11) + (129 + n_ * 29) ≤ 129 + (n_ + 1) * 29 by omega)⟩ hK hP hD hS mo0 hfo_619 12 rfl rfl rfl hl.1 rfl (Nat.le_of_ble_eq_true rfl) dX12_aligns_215 ⟨Nat.le_of_ble_eq_true rfl, Nat.le_of_ble_eq_true rfl⟩ (fun x_633 f_634 H locs hw hP hD hS => ?_)
                                        obtain ⟨hG, bx_633, hkc_635⟩ := hw
                                        have hfo_637 : f_634 o0 = .inr (12, [.ref a_2, .ref a_3, .ref a_4, .int v_5, .ref a_6, .int v_7, .int v_8, .int v_9, .int v_10, .int v_11, .int v_12, .int v_13, .int v_14, .int v_15, .int v_16, .ref a_17, .ref a_18, .ref a_19, .ref a_20, .ref a_21, .ref a_22, .ref a_23, .ref a_24, .int v_25, .int v_26, .int v_27, .int v_28, .int v_29, .ref a_30, .int v_31, .ref a_32, .ref a_33, .int v_34, .int v_35, .ref a_36, .int v_37, .ref a_38, .ref a_39, .int v_40, .int v_41, .ref a_42, .ref a_43, .ref a_44, .int v_45, .ref a_46, .ref a_47, .ref a_48, .ref a_49, .ref a_50, .ref a_51, .ref a_52, .ref a_53, .ref a_54, .int v_55, .int v_56, .ref a_57]) := by rw [hkc_635 o0 (by rw [ko0]; decide) (by rw [ko0]; decide) (by rw [ko0]; decide) (by rw [ko0]; decide) (by rw [ko0]; decide) (by rw [ko0]; decide)]; exact hfo_619
                                        have hfo_638 : f_634 a_2 = .inl (cI, 1560, .inl g_364) := by rw [hkc_635 a_2 (by rw [ka_2]; decide) (by rw [ka_2]; decide) (by rw [ka_2]; decide) (by rw [ka_2]; decide) (by rw [ka_2]; decide) (by rw [ka_2]; decide)]; exact hfo_620
                                        have hfo_639 : f_634 a_23 = .inl (cI, 16, .inl g_574) := by rw [hkc_635 a_23 (by rw [ka_23]; decide) (by rw [ka_23]; decide) (by rw [ka_23]; decide) (by rw [ka_23]; decide) (by rw [ka_23]; decide) (by rw [ka_23]; decide)]; exact hfo_621
                                        have hfo_640 : f_634 a_36 = .inl (cI, 16, .inl g_610) := by rw [hkc_635 a_36 (by rw [ka_36]; decide) (by rw [ka_36]; decide) (by rw [ka_36]; decide) (by rw [ka_36]; decide) (by rw [ka_36]; decide) (by rw [ka_36]; decide)]; exact hfo_622
                                        have hfr0 : ∀ b, kd b ≠ 579 → kd b ≠ 581 → kd b ≠ 583 → kd b ≠ 585 → kd b ≠ 587 → kd b ≠ 588 → f_634 b = f b := fun b q579 q581 q583 q585 q587 q588 => (hkc_635 b q579 q581 q583 q585 q587 q588).trans (hfr0 b q579 q581 q583 q585 q587 q588)
                                        refine lv_if_eq (tgt := 223) hx hb dX12_aligns_218 (by decide) (fun c_641 => ?_) (fun c_641 => ?_)
                                        · skip
                                          rw [← Int32.toInt_inj, ti_0] at c_641
                                          obtain ⟨x_642, ex_642⟩ : ∃ y : Int32, y_359 + 1 = y := ⟨_, rfl⟩
                                          have hx_642 : x_642.toInt = y_359.toInt + 1 := by rw [← ex_642, ad_I (by rw [ti_1]; omega) (by rw [ti_1]; omega), ti_1]
                                          have bx_642 : (1 ≤ x_642.toInt ∧ x_642.toInt ≤ 20) := by constructor <;> omega
                                          refine lv_iinc (v := x_642) (lv' := [(6, .int x_642), (9, .int y_373), (8, .int x_372), (7, .int x_369), (0, .ref o0), (1, .int p1), (2, .int p2), (3, .int p3), (4, .int p4), (5, .int p5)]) hx hb dX12_aligns_223 hl (k := 3) rfl ex_642 (by decide) rfl (fun ls hl => ?_)
                                          refine lv_goto (tgt := 32) hx hb dX12_aligns_226 (by decide) ?_
                                          exact ih_hloop_358 x_642 (by constructor <;> omega) f_634 hG _ _ hP hS hD hfr0 hfo_637 (by omega) ls (lv_sub hl [0, 4, 5, 6, 7, 8, 9] rfl)
                                        · skip
                                          rw [← Int32.toInt_inj, ti_0] at c_641
                                          refine lv_iconst (v := 1) hx hb dX12_aligns_221 (by decide) ?_
                                          exact W.zret (v := 1) (ty := .boolean) hx hb hr rfl (fun t ht hW => ⟨⟨1, f_634, rfl, ⟨hG, (by decide), hfr0⟩, by rw [ht]; exact hP, va_K.moved hW.alike hK, pl_in hD⟩, hS.F ht⟩) hS.2.2 dX12_aligns_222
                                    · skip
                                      rw [← Int32.toInt_inj, ti_0] at c_627
                                      exfalso
                                      omega
                                  · skip
                                    rw [← Int32.toInt_inj, ti_0] at c_625
                                    exfalso
                                    omega
                              · skip
                                rw [← Int32.toInt_inj] at c_612
                                refine lv_goto (tgt := 223) hx hb dX12_aligns_148 (by decide) ?_
                                obtain ⟨x_643, ex_643⟩ : ∃ y : Int32, y_359 + 1 = y := ⟨_, rfl⟩
                                have hx_643 : x_643.toInt = y_359.toInt + 1 := by rw [← ex_643, ad_I (by rw [ti_1]; omega) (by rw [ti_1]; omega), ti_1]
                                have bx_643 : (1 ≤ x_643.toInt ∧ x_643.toInt ≤ 20) := by constructor <;> omega
                                refine lv_iinc (v := x_643) (lv' := [(6, .int x_643), (9, .int y_373), (8, .int x_372), (7, .int x_369), (0, .ref o0), (1, .int p1), (2, .int p2), (3, .int p3), (4, .int p4), (5, .int p5)]) hx hb dX12_aligns_223 hl (k := 3) rfl ex_643 (by decide) rfl (fun ls hl => ?_)
                                refine lv_goto (tgt := 32) hx hb dX12_aligns_226 (by decide) ?_
                                exact ih_hloop_358 x_643 (by constructor <;> omega) f_361 hG _ _ hP hS hD hfr0 hfo_362 (by omega) ls (lv_sub hl [0, 4, 5, 6, 7, 8, 9] rfl)
              refine lv_if_eq (tgt := 84) hx hb dX12_aligns_76 (by decide) (fun c_644 => ?_) (fun c_644 => ?_)
              · skip
                rw [← Int32.toInt_inj, ti_0] at c_644
                refine lv_iconst (v := 1) hx hb dX12_aligns_84 (by decide) ?_
                refine lv_goto (tgt := 89) hx hb dX12_aligns_85 (by decide) ?_
                exact hcut_374 1 (by decide) (by (try rw [ti_1]) <;> omega) ls (lv_sub hl [0, 1, 2, 3, 4, 5, 6, 7, 8] rfl)
              · skip
                rw [← Int32.toInt_inj, ti_0] at c_644
                refine lv_iload hx hb dX12_aligns_79 (lv_at hl 0 rfl) ?_
                refine lv_if_ne (tgt := 88) hx hb dX12_aligns_81 (by decide) (fun c_645 => ?_) (fun c_645 => ?_)
                · skip
                  rw [← Int32.toInt_inj, ti_0] at c_645
                  refine lv_iconst (v := 0) hx hb dX12_aligns_88 (by decide) ?_
                  exact hcut_374 0 (by decide) (by (try rw [ti_0]) <;> omega) ls (lv_sub hl [0, 1, 2, 3, 4, 5, 6, 7, 8] rfl)
                · skip
                  rw [← Int32.toInt_inj, ti_0] at c_645
                  refine lv_iconst (v := 1) hx hb dX12_aligns_84 (by decide) ?_
                  refine lv_goto (tgt := 89) hx hb dX12_aligns_85 (by decide) ?_
                  exact hcut_374 1 (by decide) (by (try rw [ti_1]) <;> omega) ls (lv_sub hl [0, 1, 2, 3, 4, 5, 6, 7, 8] rfl)
        exact hloop_358 21 0 (by decide) f hG _ _ hP hS hD hfr0 hfo_1 (by (try rw [ti_0]) <;> omega) ls hl
      · skip
        rw [← Int32.toInt_inj] at c_352
        refine lv_aload_n hx hb dX12_aligns_16 rfl (lv_at hl 0 rfl) ?_
        refine lv_iload hx hb dX12_aligns_17 (lv_at hl 4 rfl) ?_
        refine lv_iload hx hb dX12_aligns_19 (lv_at hl 5 rfl) ?_
        refine tk_ViP (As := [.int p4, .int p5]) (rest := []) (n := 2) hx hb hml hown hU hN hZ (s_X12_closes_k12 l (dC, dI) cI cL cZ cR cG cH Z kd L f hG o0 mo0 ko0 p4 (by constructor <;> omega) p5) wd_890 wd_891 wd_892 wd_5 wd_893 (by decide +kernel) ⟨(show 2 + 1 ≤ 5 + (n_ + 1) by omega), (show 8 + (6 + 11) + 45 ≤ 129 + (n_ + 1) * 29 by omega)⟩ hK hP hD hS mo0 hfo_1 12 rfl rfl rfl hl.1 rfl (Nat.le_of_ble_eq_true rfl) dX12_aligns_21 ⟨Nat.le_of_ble_eq_true rfl, Nat.le_of_ble_eq_true rfl⟩ (fun x_646 f_647 H locs hw hP hD hS => ?_)
        obtain ⟨rfl, bx_646⟩ := hw
        refine lv_if_eq (tgt := 29) hx hb dX12_aligns_24 (by decide) (fun c_649 => ?_) (fun c_649 => ?_)
        · skip
          rw [← Int32.toInt_inj, ti_0] at c_649
          refine lv_iconst (v := 0) hx hb dX12_aligns_29 (by decide) ?_
          refine lv_istore (lv' := [(6, .int 0), (0, .ref o0), (1, .int p1), (2, .int p2), (3, .int p3), (4, .int p4), (5, .int p5)]) hx hb dX12_aligns_30 hl (by decide) rfl (fun ls hl => ?_)
          have hloop_655 : ∀ (n : Nat), ∀ (y_656 : Int32), (0 ≤ y_656.toInt ∧ y_656.toInt ≤ 20) → ∀ (f_658 : Nat → va_E), GI (okc cI cL cZ cR cG cH L kd) kd L f_658 → ∀ (H : Heap) (locs : List Loc), va_P (dC, dI) vwCl (va_pl L f_658) H → va_S (fun q => q ∈ L) s.heap H locs → va_D (fun q => q ∈ L) (va_pl L f_658) → (∀ b, kd b ≠ 579 → kd b ≠ 581 → kd b ≠ 583 → kd b ≠ 585 → kd b ≠ 587 → kd b ≠ 588 → f_658 b = f b) → (f_658 o0 = .inr (12, [.ref a_2, .ref a_3, .ref a_4, .int v_5, .ref a_6, .int v_7, .int v_8, .int v_9, .int v_10, .int v_11, .int v_12, .int v_13, .int v_14, .int v_15, .int v_16, .ref a_17, .ref a_18, .ref a_19, .ref a_20, .ref a_21, .ref a_22, .ref a_23, .ref a_24, .int v_25, .int v_26, .int v_27, .int v_28, .int v_29, .ref a_30, .int v_31, .ref a_32, .ref a_33, .int v_34, .int v_35, .ref a_36, .int v_37, .ref a_38, .ref a_39, .int v_40, .int v_41, .ref a_42, .ref a_43, .ref a_44, .int v_45, .ref a_46, .ref a_47, .ref a_48, .ref a_49, .ref a_50, .ref a_51, .ref a_52, .ref a_53, .ref a_54, .int v_55, .int v_56, .ref a_57])) → 20 - y_656.toInt < (n : Int) → ∀ (ls : Array Slot), lv_has ls 10 [(6, .int y_656), (0, .ref o0), (1, .int p1), (2, .int p2), (3, .int p3), (4, .int p4), (5, .int p5)] → W p l e (headSpec (wU yX12_aligns cX12_aligns 10 (some .boolean)) { frames := 5 + (n_ + 1), cells := 0, slots := 0, locals := 129 + (n_ + 1) * 29 }).room s m [.ref o0, .int p1, .int p2, .int p3, .int p4, .int p5].toArray below meth c H locs 0 0 (MQ below (va_Qi (fun (r : Int32) (f9 : Nat → va_E) => GI (okc cI cL cZ cR cG cH L kd) kd L f9 ∧ (0 ≤ r.toInt ∧ r.toInt ≤ 1) ∧ (∀ b, kd b ≠ 579 → kd b ≠ 581 → kd b ≠ 583 → kd b ≠ 585 → kd b ≠ 587 → kd b ≠ 588 → f9 b = f b)) (qP (dC, dI) cI cL cZ cR cG cH L) (fun q => q ∈ L)) [.ref o0, .int p1, .int p2, .int p3, .int p4, .int p5].toArray s 0 0 (fun q => q ∈ L)) (F0 m 32 ls []) := by
            intro n
            induction n with
            | zero => intro y_656 by_656 f_658 hG H locs hP hS hD hfr0 hfo_659 hmuhloop_655 ls hl; exfalso; omega
            | succ n ih_hloop_655 =>
              intro y_656 by_656 f_658 hG H locs hP hS hD hfr0 hfo_659 hmuhloop_655 ls hl
              refine lv_iload hx hb dX12_aligns_32 (lv_at hl 0 rfl) ?_
              refine lv_aload_n hx hb dX12_aligns_34 rfl (lv_at hl 1 rfl) ?_
              refine tk_getP (D := (dC, dI)) (ci := 12) (v := .ref a_2) (C := RX12) (T := TX12) (N := 56) hx hb hU inlX12 hown hK hP mo0 hfo_659 rfl 0 (by decide) (hU _ wd_169) (fun _ h9 => h9) rfl dX12_aligns_35 ?_
              refine lv_bipush (v := 16) hx hb dX12_aligns_38 (by decide) ?_
              obtain ⟨g_661, hfo_660, hbg_661⟩ := un_575 (hG _ ma_2) ka_2
              refine tk_ildP hx hb hK hP 0 ma_2 hfo_660 rfl (vp_in_nI (n := 16) (by decide) (by decide)) dX12_aligns_40 ?_
              refine lv_topi (fun x_662 ex_662 => ?_)
              have bx_662 : (0 ≤ x_662.toInt ∧ x_662.toInt ≤ 20) := by rw [ex_662]; exact hbg_661.2.1 _ (by decide) (by decide) (by decide)
              refine lv_icmp_ge (tgt := 229) hx hb dX12_aligns_41 (by decide) (fun c_663 => ?_) (fun c_663 => ?_)
              · skip
                rw [Int32.le_iff_toInt_le] at c_663
                refine lv_iconst (v := 0) hx hb dX12_aligns_229 (by decide) ?_
                exact W.zret (v := 0) (ty := .boolean) hx hb hr rfl (fun t ht hW => ⟨⟨0, f_658, rfl, ⟨hG, (by decide), hfr0⟩, by rw [ht]; exact hP, va_K.moved hW.alike hK, pl_in hD⟩, hS.F ht⟩) hS.2.2 dX12_aligns_230
              · skip
                rw [Int32.le_iff_toInt_le] at c_663
                refine lv_aload_n hx hb dX12_aligns_44 rfl (lv_at hl 1 rfl) ?_
                refine tk_getP (D := (dC, dI)) (ci := 12) (v := .ref a_2) (C := RX12) (T := TX12) (N := 56) hx hb hU inlX12 hown hK hP mo0 hfo_659 rfl 0 (by decide) (hU _ wd_169) (fun _ h9 => h9) rfl dX12_aligns_45 ?_
                refine lv_bipush (v := 20) hx hb dX12_aligns_48 (by decide) ?_
                refine lv_iload hx hb dX12_aligns_50 (lv_at hl 0 rfl) ?_
                refine lv_iadd hx hb dX12_aligns_52 ?_
                refine lv_topi (fun x_664 ex_664 => ?_)
                have hx_664 : x_664.toInt = 20 + y_656.toInt := by rw [ex_664, ad_I (by rw [ti_20]; omega) (by rw [ti_20]; omega), ti_20]
                have bx_664 : (20 ≤ x_664.toInt ∧ x_664.toInt ≤ 39) := by constructor <;> omega
                refine tk_ildP hx hb hK hP 0 ma_2 hfo_660 rfl (vp_in_iff.mpr (by constructor <;> omega)) dX12_aligns_53 ?_
                refine lv_topi (fun x_665 ex_665 => ?_)
                have bx_665 : (0 ≤ x_665.toInt ∧ x_665.toInt ≤ 80) := by have hc9 := cl_I (i := x_664) (by omega); rw [ex_665]; exact hbg_661.2.2.2.2.2.1 _ (by omega) (by omega) (by omega)
                refine lv_bipush (v := 9) hx hb dX12_aligns_54 (by decide) ?_
                refine lv_idiv hx hb dX12_aligns_56 (by decide) ?_
                refine lv_topi (fun x_666 ex_666 => ?_)
                have hx_666 : x_666.toInt = x_665.toInt / 9 := by rw [ex_666, dv_I (by omega) (by rw [ti_9]; omega), ti_9]
                have bx_666 : (0 ≤ x_666.toInt ∧ x_666.toInt ≤ 8) := by constructor <;> omega
                refine lv_istore (lv' := [(7, .int x_666), (6, .int y_656), (0, .ref o0), (1, .int p1), (2, .int p2), (3, .int p3), (4, .int p4), (5, .int p5)]) hx hb dX12_aligns_57 hl (by decide) rfl (fun ls hl => ?_)
                refine lv_aload_n hx hb dX12_aligns_59 rfl (lv_at hl 2 rfl) ?_
                refine tk_getP (D := (dC, dI)) (ci := 12) (v := .ref a_2) (C := RX12) (T := TX12) (N := 56) hx hb hU inlX12 hown hK hP mo0 hfo_659 rfl 0 (by decide) (hU _ wd_169) (fun _ h9 => h9) rfl dX12_aligns_60 ?_
                refine lv_bipush (v := 20) hx hb dX12_aligns_63 (by decide) ?_
                refine lv_iload hx hb dX12_aligns_65 (lv_at hl 1 rfl) ?_
                refine lv_iadd hx hb dX12_aligns_67 ?_
                refine lv_topi (fun x_667 ex_667 => ?_)
                have hx_667 : x_667.toInt = 20 + y_656.toInt := by rw [ex_667, ad_I (by rw [ti_20]; omega) (by rw [ti_20]; omega), ti_20]
                have bx_667 : (20 ≤ x_667.toInt ∧ x_667.toInt ≤ 39) := by constructor <;> omega
                refine tk_ildP hx hb hK hP 0 ma_2 hfo_660 rfl (vp_in_iff.mpr (by constructor <;> omega)) dX12_aligns_68 ?_
                refine lv_topi (fun x_668 ex_668 => ?_)
                have bx_668 : (0 ≤ x_668.toInt ∧ x_668.toInt ≤ 80) := by have hc9 := cl_I (i := x_667) (by omega); rw [ex_668]; exact hbg_661.2.2.2.2.2.1 _ (by omega) (by omega) (by omega)
                refine lv_bipush (v := 9) hx hb dX12_aligns_69 (by decide) ?_
                refine lv_irem hx hb dX12_aligns_71 (by decide) ?_
                refine lv_topi (fun x_669 ex_669 => ?_)
                have hx_669 : x_669.toInt = x_668.toInt % 9 := by rw [ex_669, rm_I (by omega) (by rw [ti_9]; omega), ti_9]
                have bx_669 : (0 ≤ x_669.toInt ∧ x_669.toInt ≤ 8) := by constructor <;> omega
                refine lv_istore (lv' := [(8, .int x_669), (7, .int x_666), (6, .int y_656), (0, .ref o0), (1, .int p1), (2, .int p2), (3, .int p3), (4, .int p4), (5, .int p5)]) hx hb dX12_aligns_72 hl (by decide) rfl (fun ls hl => ?_)
                refine lv_iload hx hb dX12_aligns_74 (lv_at hl 1 rfl) ?_
                have hcut_671 : ∀ (y_670 : Int32), (0 ≤ y_670.toInt ∧ y_670.toInt ≤ 1) → (y_670.toInt = 1 ∨ (y_670.toInt = 0 ∧ x_666.toInt ≠ 0 ∧ x_669.toInt ≠ 0)) → ∀ (ls : Array Slot), lv_has ls 10 [(8, .int x_669), (7, .int x_666), (6, .int y_656), (0, .ref o0), (1, .int p1), (2, .int p2), (3, .int p3), (4, .int p4), (5, .int p5)] → W p l e (headSpec (wU yX12_aligns cX12_aligns 10 (some .boolean)) { frames := 5 + (n_ + 1), cells := 0, slots := 0, locals := 129 + (n_ + 1) * 29 }).room s m [.ref o0, .int p1, .int p2, .int p3, .int p4, .int p5].toArray below meth c H locs 0 0 (MQ below (va_Qi (fun (r : Int32) (f9 : Nat → va_E) => GI (okc cI cL cZ cR cG cH L kd) kd L f9 ∧ (0 ≤ r.toInt ∧ r.toInt ≤ 1) ∧ (∀ b, kd b ≠ 579 → kd b ≠ 581 → kd b ≠ 583 → kd b ≠ 585 → kd b ≠ 587 → kd b ≠ 588 → f9 b = f b)) (qP (dC, dI) cI cL cZ cR cG cH L) (fun q => q ∈ L)) [.ref o0, .int p1, .int p2, .int p3, .int p4, .int p5].toArray s 0 0 (fun q => q ∈ L)) (F0 m 89 ls [.int y_670]) := by
                  intro y_670 by_670 hjhcut_671_0 ls hl
                  refine lv_istore (lv' := [(9, .int y_670), (8, .int x_669), (7, .int x_666), (6, .int y_656), (0, .ref o0), (1, .int p1), (2, .int p2), (3, .int p3), (4, .int p4), (5, .int p5)]) hx hb dX12_aligns_89 hl (by decide) rfl (fun ls hl => ?_)
                  refine lv_iload hx hb dX12_aligns_91 (lv_at hl 0 rfl) ?_
                  refine lv_if_eq (tgt := 100) hx hb dX12_aligns_93 (by decide) (fun c_672 => ?_) (fun c_672 => ?_)
                  · skip
                    rw [← Int32.toInt_inj, ti_0] at c_672
                    refine lv_iload hx hb dX12_aligns_100 (lv_at hl 2 rfl) ?_
                    refine lv_if_eq (tgt := 124) hx hb dX12_aligns_102 (by decide) (fun c_673 => ?_) (fun c_673 => ?_)
                    · skip
                      rw [← Int32.toInt_inj, ti_0] at c_673
                      refine lv_iload hx hb dX12_aligns_124 (lv_at hl 1 rfl) ?_
                      refine lv_if_eq (tgt := 151) hx hb dX12_aligns_126 (by decide) (fun c_674 => ?_) (fun c_674 => ?_)
                      · skip
                        rw [← Int32.toInt_inj, ti_0] at c_674
                        refine lv_aload_n hx hb dX12_aligns_151 rfl (lv_at hl 4 rfl) ?_
                        refine lv_iload hx hb dX12_aligns_152 (lv_at hl 8 rfl) ?_
                        refine lv_aload_n hx hb dX12_aligns_154 rfl (lv_at hl 4 rfl) ?_
                        refine tk_getP (D := (dC, dI)) (ci := 12) (v := .ref a_2) (C := RX12) (T := TX12) (N := 56) hx hb hU inlX12 hown hK hP mo0 hfo_659 rfl 0 (by decide) (hU _ wd_169) (fun _ h9 => h9) rfl dX12_aligns_155 ?_
                        refine lv_bipush (v := 20) hx hb dX12_aligns_158 (by decide) ?_
                        refine lv_iload hx hb dX12_aligns_160 (lv_at hl 3 rfl) ?_
                        refine lv_iadd hx hb dX12_aligns_162 ?_
                        refine lv_topi (fun x_675 ex_675 => ?_)
                        have hx_675 : x_675.toInt = 20 + y_656.toInt := by rw [ex_675, ad_I (by rw [ti_20]; omega) (by rw [ti_20]; omega), ti_20]
                        have bx_675 : (20 ≤ x_675.toInt ∧ x_675.toInt ≤ 39) := by constructor <;> omega
                        refine tk_ildP hx hb hK hP 0 ma_2 hfo_660 rfl (vp_in_iff.mpr (by constructor <;> omega)) dX12_aligns_163 ?_
                        refine lv_topi (fun x_676 ex_676 => ?_)
                        have bx_676 : (0 ≤ x_676.toInt ∧ x_676.toInt ≤ 80) := by have hc9 := cl_I (i := x_675) (by omega); rw [ex_676]; exact hbg_661.2.2.2.2.2.1 _ (by omega) (by omega) (by omega)
                        refine lv_iload hx hb dX12_aligns_164 (lv_at hl 9 rfl) ?_
                        refine tk_ViP (As := [.int p4, .int x_676, .int p5]) (rest := []) (n := 3) hx hb hml hown hU hN hZ (s_X12_reads_k12 l (dC, dI) cI cL cZ cR cG cH Z kd L f_658 hG o0 mo0 ko0 p4 (by constructor <;> omega) x_676 p5) wd_950 wd_951 wd_952 wd_5 wd_953 (by decide +kernel) ⟨(show 4 + 1 ≤ 5 + (n_ + 1) by omega), (show 8 + (5 + 11) + 105 ≤ 129 + (n_ + 1) * 29 by omega)⟩ hK hP hD hS mo0 hfo_659 12 rfl rfl rfl hl.1 rfl (Nat.le_of_ble_eq_true rfl) dX12_aligns_166 ⟨Nat.le_of_ble_eq_true rfl, Nat.le_of_ble_eq_true rfl⟩ (fun x_677 f_678 H locs hw hP hD hS => ?_)
                        obtain ⟨hG, bx_677, hkc_679⟩ := hw
                        have hfo_681 : f_678 o0 = .inr (12, [.ref a_2, .ref a_3, .ref a_4, .int v_5, .ref a_6, .int v_7, .int v_8, .int v_9, .int v_10, .int v_11, .int v_12, .int v_13, .int v_14, .int v_15, .int v_16, .ref a_17, .ref a_18, .ref a_19, .ref a_20, .ref a_21, .ref a_22, .ref a_23, .ref a_24, .int v_25, .int v_26, .int v_27, .int v_28, .int v_29, .ref a_30, .int v_31, .ref a_32, .ref a_33, .int v_34, .int v_35, .ref a_36, .int v_37, .ref a_38, .ref a_39, .int v_40, .int v_41, .ref a_42, .ref a_43, .ref a_44, .int v_45, .ref a_46, .ref a_47, .ref a_48, .ref a_49, .ref a_50, .ref a_51, .ref a_52, .ref a_53, .ref a_54, .int v_55, .int v_56, .ref a_57]) := by rw [hkc_679 o0 (by rw [ko0]; decide) (by rw [ko0]; decide) (by rw [ko0]; decide) (by rw [ko0]; decide) (by rw [ko0]; decide) (by rw [ko0]; decide)]; exact hfo_659
                        have hfo_682 : f_678 a_2 = .inl (cI, 1560, .inl g_661) := by rw [hkc_679 a_2 (by rw [ka_2]; decide) (by rw [ka_2]; decide) (by rw [ka_2]; decide) (by rw [ka_2]; decide) (by rw [ka_2]; decide) (by rw [ka_2]; decide)]; exact hfo_660
                        have hfr0 : ∀ b, kd b ≠ 579 → kd b ≠ 581 → kd b ≠ 583 → kd b ≠ 585 → kd b ≠ 587 → kd b ≠ 588 → f_678 b = f b := fun b q579 q581 q583 q585 q587 q588 => (hkc_679 b q579 q581 q583 q585 q587 q588).trans (hfr0 b q579 q581 q583 q585 q587 q588)
                        refine lv_if_eq (tgt := 223) hx hb dX12_aligns_169 (by decide) (fun c_683 => ?_) (fun c_683 => ?_)
                        · skip
                          rw [← Int32.toInt_inj, ti_0] at c_683
                          obtain ⟨x_684, ex_684⟩ : ∃ y : Int32, y_656 + 1 = y := ⟨_, rfl⟩
                          have hx_684 : x_684.toInt = y_656.toInt + 1 := by rw [← ex_684, ad_I (by rw [ti_1]; omega) (by rw [ti_1]; omega), ti_1]
                          have bx_684 : (1 ≤ x_684.toInt ∧ x_684.toInt ≤ 20) := by constructor <;> omega
                          refine lv_iinc (v := x_684) (lv' := [(6, .int x_684), (9, .int y_670), (8, .int x_669), (7, .int x_666), (0, .ref o0), (1, .int p1), (2, .int p2), (3, .int p3), (4, .int p4), (5, .int p5)]) hx hb dX12_aligns_223 hl (k := 3) rfl ex_684 (by decide) rfl (fun ls hl => ?_)
                          refine lv_goto (tgt := 32) hx hb dX12_aligns_226 (by decide) ?_
                          exact ih_hloop_655 x_684 (by constructor <;> omega) f_678 hG _ _ hP hS hD hfr0 hfo_681 (by omega) ls (lv_sub hl [0, 4, 5, 6, 7, 8, 9] rfl)
                        · skip
                          rw [← Int32.toInt_inj, ti_0] at c_683
                          refine lv_aload_n hx hb dX12_aligns_172 rfl (lv_at hl 4 rfl) ?_
                          refine lv_iload hx hb dX12_aligns_173 (lv_at hl 2 rfl) ?_
                          refine lv_if_ne (tgt := 182) hx hb dX12_aligns_175 (by decide) (fun c_685 => ?_) (fun c_685 => ?_)
                          · skip
                            rw [← Int32.toInt_inj, ti_0] at c_685
                            exfalso
                            omega
                          · skip
                            rw [← Int32.toInt_inj, ti_0] at c_685
                            refine lv_iload_n hx hb dX12_aligns_178 rfl (lv_at hl 5 rfl) ?_
                            refine lv_goto (tgt := 185) hx hb dX12_aligns_179 (by decide) ?_
                            refine lv_iload hx hb dX12_aligns_185 (lv_at hl 1 rfl) ?_
                            refine lv_if_ne (tgt := 194) hx hb dX12_aligns_187 (by decide) (fun c_686 => ?_) (fun c_686 => ?_)
                            · skip
                              rw [← Int32.toInt_inj, ti_0] at c_686
                              exfalso
                              omega
                            · skip
                              rw [← Int32.toInt_inj, ti_0] at c_686
                              refine lv_iload_n hx hb dX12_aligns_190 rfl (lv_at hl 6 rfl) ?_
                              refine lv_goto (tgt := 197) hx hb dX12_aligns_191 (by decide) ?_
                              refine lv_iload hx hb dX12_aligns_197 (lv_at hl 0 rfl) ?_
                              refine lv_if_eq (tgt := 208) hx hb dX12_aligns_199 (by decide) (fun c_687 => ?_) (fun c_687 => ?_)
                              · skip
                                rw [← Int32.toInt_inj, ti_0] at c_687
                                refine lv_iload_n hx hb dX12_aligns_208 rfl (lv_at hl 7 rfl) ?_
                                refine lv_iload hx hb dX12_aligns_209 (lv_at hl 8 rfl) ?_
                                refine lv_iconst (v := 1) hx hb dX12_aligns_211 (by decide) ?_
                                refine lv_iadd hx hb dX12_aligns_212 ?_
                                refine lv_topi (fun x_688 ex_688 => ?_)
                                have hx_688 : x_688.toInt = p4.toInt + 1 := by rw [ex_688, ad_I (by rw [ti_1]; omega) (by rw [ti_1]; omega), ti_1]
                                have bx_688 : (1 ≤ x_688.toInt ∧ x_688.toInt ≤ 14) := by constructor <;> omega
                                have hclc_689 : (1 ≤ x_688.toInt ∧ x_688.toInt ≤ 13) := by constructor <;> omega
                                refine lv_iload hx hb dX12_aligns_213 (lv_at hl 9 rfl) ?_
                                refine tk_ViP (As := [.int p1, .int p2, .int p3, .int x_688, .int p5]) (rest := []) (n := 5) hx hb hml hown hU hN hZ (ih_rec f_678 hG o0 mo0 ko0 p1 (by constructor <;> omega) p2 (by constructor <;> omega) p3 (by constructor <;> omega) x_688 (by constructor <;> omega) p5 (by intro w23 w35 e23 e35; rw [hfo_681] at e23 e35; obtain rfl := Option.some.inj e23; obtain rfl := Option.some.inj e35; omega) (by omega) (by omega)) wd_1054 wd_1055 wd_1056 wd_5 wd_1057 (by decide +kernel) ⟨(show (5 + n_) + 1 ≤ 5 + (n_ + 1) by omega), (show 8 + (10 + 11) + (129 + n_ * 29) ≤ 129 + (n_ + 1) * 29 by omega)⟩ hK hP hD hS mo0 hfo_681 12 rfl rfl rfl hl.1 rfl (Nat.le_of_ble_eq_true rfl) dX12_aligns_215 ⟨Nat.le_of_ble_eq_true rfl, Nat.le_of_ble_eq_true rfl⟩ (fun x_690 f_691 H locs hw hP hD hS => ?_)
                                obtain ⟨hG, bx_690, hkc_692⟩ := hw
                                have hfo_694 : f_691 o0 = .inr (12, [.ref a_2, .ref a_3, .ref a_4, .int v_5, .ref a_6, .int v_7, .int v_8, .int v_9, .int v_10, .int v_11, .int v_12, .int v_13, .int v_14, .int v_15, .int v_16, .ref a_17, .ref a_18, .ref a_19, .ref a_20, .ref a_21, .ref a_22, .ref a_23, .ref a_24, .int v_25, .int v_26, .int v_27, .int v_28, .int v_29, .ref a_30, .int v_31, .ref a_32, .ref a_33, .int v_34, .int v_35, .ref a_36, .int v_37, .ref a_38, .ref a_39, .int v_40, .int v_41, .ref a_42, .ref a_43, .ref a_44, .int v_45, .ref a_46, .ref a_47, .ref a_48, .ref a_49, .ref a_50, .ref a_51, .ref a_52, .ref a_53, .ref a_54, .int v_55, .int v_56, .ref a_57]) := by rw [hkc_692 o0 (by rw [ko0]; decide) (by rw [ko0]; decide) (by rw [ko0]; decide) (by rw [ko0]; decide) (by rw [ko0]; decide) (by rw [ko0]; decide)]; exact hfo_681
                                have hfo_695 : f_691 a_2 = .inl (cI, 1560, .inl g_661) := by rw [hkc_692 a_2 (by rw [ka_2]; decide) (by rw [ka_2]; decide) (by rw [ka_2]; decide) (by rw [ka_2]; decide) (by rw [ka_2]; decide) (by rw [ka_2]; decide)]; exact hfo_682
                                have hfr0 : ∀ b, kd b ≠ 579 → kd b ≠ 581 → kd b ≠ 583 → kd b ≠ 585 → kd b ≠ 587 → kd b ≠ 588 → f_691 b = f b := fun b q579 q581 q583 q585 q587 q588 => (hkc_692 b q579 q581 q583 q585 q587 q588).trans (hfr0 b q579 q581 q583 q585 q587 q588)
                                refine lv_if_eq (tgt := 223) hx hb dX12_aligns_218 (by decide) (fun c_696 => ?_) (fun c_696 => ?_)
                                · skip
                                  rw [← Int32.toInt_inj, ti_0] at c_696
                                  obtain ⟨x_697, ex_697⟩ : ∃ y : Int32, y_656 + 1 = y := ⟨_, rfl⟩
                                  have hx_697 : x_697.toInt = y_656.toInt + 1 := by rw [← ex_697, ad_I (by rw [ti_1]; omega) (by rw [ti_1]; omega), ti_1]
                                  have bx_697 : (1 ≤ x_697.toInt ∧ x_697.toInt ≤ 20) := by constructor <;> omega
                                  refine lv_iinc (v := x_697) (lv' := [(6, .int x_697), (9, .int y_670), (8, .int x_669), (7, .int x_666), (0, .ref o0), (1, .int p1), (2, .int p2), (3, .int p3), (4, .int p4), (5, .int p5)]) hx hb dX12_aligns_223 hl (k := 3) rfl ex_697 (by decide) rfl (fun ls hl => ?_)
                                  refine lv_goto (tgt := 32) hx hb dX12_aligns_226 (by decide) ?_
                                  exact ih_hloop_655 x_697 (by constructor <;> omega) f_691 hG _ _ hP hS hD hfr0 hfo_694 (by omega) ls (lv_sub hl [0, 4, 5, 6, 7, 8, 9] rfl)
                                · skip
                                  rw [← Int32.toInt_inj, ti_0] at c_696
                                  refine lv_iconst (v := 1) hx hb dX12_aligns_221 (by decide) ?_
                                  exact W.zret (v := 1) (ty := .boolean) hx hb hr rfl (fun t ht hW => ⟨⟨1, f_691, rfl, ⟨hG, (by decide), hfr0⟩, by rw [ht]; exact hP, va_K.moved hW.alike hK, pl_in hD⟩, hS.F ht⟩) hS.2.2 dX12_aligns_222
                              · skip
                                rw [← Int32.toInt_inj, ti_0] at c_687
                                exfalso
                                omega
                      · skip
                        rw [← Int32.toInt_inj, ti_0] at c_674
                        refine lv_iload_n hx hb dX12_aligns_129 rfl (lv_at hl 6 rfl) ?_
                        refine lv_aload_n hx hb dX12_aligns_130 rfl (lv_at hl 4 rfl) ?_
                        refine tk_getP (D := (dC, dI)) (ci := 12) (v := .int v_37) (C := RX12) (T := TX12) (N := 56) hx hb hU inlX12 hown hK hP mo0 hfo_659 rfl 35 (by decide) (hU _ wd_1049) (fun _ h9 => h9) rfl dX12_aligns_131 ?_
                        refine lv_icmp_eq (tgt := 223) hx hb dX12_aligns_134 (by decide) (fun c_698 => ?_) (fun c_698 => ?_)
                        · skip
                          rw [← Int32.toInt_inj] at c_698
                          obtain ⟨x_699, ex_699⟩ : ∃ y : Int32, y_656 + 1 = y := ⟨_, rfl⟩
                          have hx_699 : x_699.toInt = y_656.toInt + 1 := by rw [← ex_699, ad_I (by rw [ti_1]; omega) (by rw [ti_1]; omega), ti_1]
                          have bx_699 : (1 ≤ x_699.toInt ∧ x_699.toInt ≤ 20) := by constructor <;> omega
                          refine lv_iinc (v := x_699) (lv' := [(6, .int x_699), (9, .int y_670), (8, .int x_669), (7, .int x_666), (0, .ref o0), (1, .int p1), (2, .int p2), (3, .int p3), (4, .int p4), (5, .int p5)]) hx hb dX12_aligns_223 hl (k := 3) rfl ex_699 (by decide) rfl (fun ls hl => ?_)
                          refine lv_goto (tgt := 32) hx hb dX12_aligns_226 (by decide) ?_
                          exact ih_hloop_655 x_699 (by constructor <;> omega) f_658 hG _ _ hP hS hD hfr0 hfo_659 (by omega) ls (lv_sub hl [0, 4, 5, 6, 7, 8, 9] rfl)
                        · skip
                          rw [← Int32.toInt_inj] at c_698
                          have hclc_700 : (0 ≤ p2.toInt ∧ p2.toInt ≤ 7) := by constructor <;> omega
                          refine lv_aload_n hx hb dX12_aligns_137 rfl (lv_at hl 4 rfl) ?_
                          refine tk_getP (D := (dC, dI)) (ci := 12) (v := .ref a_36) (C := RX12) (T := TX12) (N := 56) hx hb hU inlX12 hown hK hP mo0 hfo_659 rfl 34 (by decide) (hU _ wd_186) (fun _ h9 => h9) rfl dX12_aligns_138 ?_
                          refine lv_iload_n hx hb dX12_aligns_141 rfl (lv_at hl 6 rfl) ?_
                          obtain ⟨g_702, hfo_701, hbg_702⟩ := un_594 (hG _ ma_36) ka_36
                          refine tk_ildP hx hb hK hP 0 ma_36 hfo_701 rfl (vp_in_iff.mpr (by constructor <;> omega)) dX12_aligns_142 ?_
                          refine lv_topi (fun x_703 ex_703 => ?_)
                          have bx_703 : (0 ≤ x_703.toInt ∧ x_703.toInt ≤ 8) := by rw [ex_703]; exact hbg_702 _
                          refine lv_iload hx hb dX12_aligns_143 (lv_at hl 1 rfl) ?_
                          refine lv_icmp_eq (tgt := 151) hx hb dX12_aligns_145 (by decide) (fun c_704 => ?_) (fun c_704 => ?_)
                          · skip
                            rw [← Int32.toInt_inj] at c_704
                            refine lv_aload_n hx hb dX12_aligns_151 rfl (lv_at hl 4 rfl) ?_
                            refine lv_iload hx hb dX12_aligns_152 (lv_at hl 8 rfl) ?_
                            refine lv_aload_n hx hb dX12_aligns_154 rfl (lv_at hl 4 rfl) ?_
                            refine tk_getP (D := (dC, dI)) (ci := 12) (v := .ref a_2) (C := RX12) (T := TX12) (N := 56) hx hb hU inlX12 hown hK hP mo0 hfo_659 rfl 0 (by decide) (hU _ wd_169) (fun _ h9 => h9) rfl dX12_aligns_155 ?_
                            refine lv_bipush (v := 20) hx hb dX12_aligns_158 (by decide) ?_
                            refine lv_iload hx hb dX12_aligns_160 (lv_at hl 3 rfl) ?_
                            refine lv_iadd hx hb dX12_aligns_162 ?_
                            refine lv_topi (fun x_705 ex_705 => ?_)
                            have hx_705 : x_705.toInt = 20 + y_656.toInt := by rw [ex_705, ad_I (by rw [ti_20]; omega) (by rw [ti_20]; omega), ti_20]
                            have bx_705 : (20 ≤ x_705.toInt ∧ x_705.toInt ≤ 39) := by constructor <;> omega
                            refine tk_ildP hx hb hK hP 0 ma_2 hfo_660 rfl (vp_in_iff.mpr (by constructor <;> omega)) dX12_aligns_163 ?_
                            refine lv_topi (fun x_706 ex_706 => ?_)
                            have bx_706 : (0 ≤ x_706.toInt ∧ x_706.toInt ≤ 80) := by have hc9 := cl_I (i := x_705) (by omega); rw [ex_706]; exact hbg_661.2.2.2.2.2.1 _ (by omega) (by omega) (by omega)
                            refine lv_iload hx hb dX12_aligns_164 (lv_at hl 9 rfl) ?_
                            refine tk_ViP (As := [.int p4, .int x_706, .int p5]) (rest := []) (n := 3) hx hb hml hown hU hN hZ (s_X12_reads_k12 l (dC, dI) cI cL cZ cR cG cH Z kd L f_658 hG o0 mo0 ko0 p4 (by constructor <;> omega) x_706 p5) wd_950 wd_951 wd_952 wd_5 wd_953 (by decide +kernel) ⟨(show 4 + 1 ≤ 5 + (n_ + 1) by omega), (show 8 + (5 + 11) + 105 ≤ 129 + (n_ + 1) * 29 by omega)⟩ hK hP hD hS mo0 hfo_659 12 rfl rfl rfl hl.1 rfl (Nat.le_of_ble_eq_true rfl) dX12_aligns_166 ⟨Nat.le_of_ble_eq_true rfl, Nat.le_of_ble_eq_true rfl⟩ (fun x_707 f_708 H locs hw hP hD hS => ?_)
                            obtain ⟨hG, bx_707, hkc_709⟩ := hw
                            have hfo_711 : f_708 o0 = .inr (12, [.ref a_2, .ref a_3, .ref a_4, .int v_5, .ref a_6, .int v_7, .int v_8, .int v_9, .int v_10, .int v_11, .int v_12, .int v_13, .int v_14, .int v_15, .int v_16, .ref a_17, .ref a_18, .ref a_19, .ref a_20, .ref a_21, .ref a_22, .ref a_23, .ref a_24, .int v_25, .int v_26, .int v_27, .int v_28, .int v_29, .ref a_30, .int v_31, .ref a_32, .ref a_33, .int v_34, .int v_35, .ref a_36, .int v_37, .ref a_38, .ref a_39, .int v_40, .int v_41, .ref a_42, .ref a_43, .ref a_44, .int v_45, .ref a_46, .ref a_47, .ref a_48, .ref a_49, .ref a_50, .ref a_51, .ref a_52, .ref a_53, .ref a_54, .int v_55, .int v_56, .ref a_57]) := by rw [hkc_709 o0 (by rw [ko0]; decide) (by rw [ko0]; decide) (by rw [ko0]; decide) (by rw [ko0]; decide) (by rw [ko0]; decide) (by rw [ko0]; decide)]; exact hfo_659
                            have hfo_712 : f_708 a_2 = .inl (cI, 1560, .inl g_661) := by rw [hkc_709 a_2 (by rw [ka_2]; decide) (by rw [ka_2]; decide) (by rw [ka_2]; decide) (by rw [ka_2]; decide) (by rw [ka_2]; decide) (by rw [ka_2]; decide)]; exact hfo_660
                            have hfo_713 : f_708 a_36 = .inl (cI, 16, .inl g_702) := by rw [hkc_709 a_36 (by rw [ka_36]; decide) (by rw [ka_36]; decide) (by rw [ka_36]; decide) (by rw [ka_36]; decide) (by rw [ka_36]; decide) (by rw [ka_36]; decide)]; exact hfo_701
                            have hfr0 : ∀ b, kd b ≠ 579 → kd b ≠ 581 → kd b ≠ 583 → kd b ≠ 585 → kd b ≠ 587 → kd b ≠ 588 → f_708 b = f b := fun b q579 q581 q583 q585 q587 q588 => (hkc_709 b q579 q581 q583 q585 q587 q588).trans (hfr0 b q579 q581 q583 q585 q587 q588)
                            refine lv_if_eq (tgt := 223) hx hb dX12_aligns_169 (by decide) (fun c_714 => ?_) (fun c_714 => ?_)
                            · skip
                              rw [← Int32.toInt_inj, ti_0] at c_714
                              obtain ⟨x_715, ex_715⟩ : ∃ y : Int32, y_656 + 1 = y := ⟨_, rfl⟩
                              have hx_715 : x_715.toInt = y_656.toInt + 1 := by rw [← ex_715, ad_I (by rw [ti_1]; omega) (by rw [ti_1]; omega), ti_1]
                              have bx_715 : (1 ≤ x_715.toInt ∧ x_715.toInt ≤ 20) := by constructor <;> omega
                              refine lv_iinc (v := x_715) (lv' := [(6, .int x_715), (9, .int y_670), (8, .int x_669), (7, .int x_666), (0, .ref o0), (1, .int p1), (2, .int p2), (3, .int p3), (4, .int p4), (5, .int p5)]) hx hb dX12_aligns_223 hl (k := 3) rfl ex_715 (by decide) rfl (fun ls hl => ?_)
                              refine lv_goto (tgt := 32) hx hb dX12_aligns_226 (by decide) ?_
                              exact ih_hloop_655 x_715 (by constructor <;> omega) f_708 hG _ _ hP hS hD hfr0 hfo_711 (by omega) ls (lv_sub hl [0, 4, 5, 6, 7, 8, 9] rfl)
                            · skip
                              rw [← Int32.toInt_inj, ti_0] at c_714
                              refine lv_aload_n hx hb dX12_aligns_172 rfl (lv_at hl 4 rfl) ?_
                              refine lv_iload hx hb dX12_aligns_173 (lv_at hl 2 rfl) ?_
                              refine lv_if_ne (tgt := 182) hx hb dX12_aligns_175 (by decide) (fun c_716 => ?_) (fun c_716 => ?_)
                              · skip
                                rw [← Int32.toInt_inj, ti_0] at c_716
                                exfalso
                                omega
                              · skip
                                rw [← Int32.toInt_inj, ti_0] at c_716
                                refine lv_iload_n hx hb dX12_aligns_178 rfl (lv_at hl 5 rfl) ?_
                                refine lv_goto (tgt := 185) hx hb dX12_aligns_179 (by decide) ?_
                                refine lv_iload hx hb dX12_aligns_185 (lv_at hl 1 rfl) ?_
                                refine lv_if_ne (tgt := 194) hx hb dX12_aligns_187 (by decide) (fun c_717 => ?_) (fun c_717 => ?_)
                                · skip
                                  rw [← Int32.toInt_inj, ti_0] at c_717
                                  refine lv_iload_n hx hb dX12_aligns_194 rfl (lv_at hl 6 rfl) ?_
                                  refine lv_iconst (v := 1) hx hb dX12_aligns_195 (by decide) ?_
                                  refine lv_iadd hx hb dX12_aligns_196 ?_
                                  refine lv_topi (fun x_718 ex_718 => ?_)
                                  have hx_718 : x_718.toInt = p2.toInt + 1 := by rw [ex_718, ad_I (by rw [ti_1]; omega) (by rw [ti_1]; omega), ti_1]
                                  have bx_718 : (1 ≤ x_718.toInt ∧ x_718.toInt ≤ 8) := by constructor <;> omega
                                  refine lv_iload hx hb dX12_aligns_197 (lv_at hl 0 rfl) ?_
                                  refine lv_if_eq (tgt := 208) hx hb dX12_aligns_199 (by decide) (fun c_719 => ?_) (fun c_719 => ?_)
                                  · skip
                                    rw [← Int32.toInt_inj, ti_0] at c_719
                                    refine lv_iload_n hx hb dX12_aligns_208 rfl (lv_at hl 7 rfl) ?_
                                    refine lv_iload hx hb dX12_aligns_209 (lv_at hl 8 rfl) ?_
                                    refine lv_iconst (v := 1) hx hb dX12_aligns_211 (by decide) ?_
                                    refine lv_iadd hx hb dX12_aligns_212 ?_
                                    refine lv_topi (fun x_720 ex_720 => ?_)
                                    have hx_720 : x_720.toInt = p4.toInt + 1 := by rw [ex_720, ad_I (by rw [ti_1]; omega) (by rw [ti_1]; omega), ti_1]
                                    have bx_720 : (1 ≤ x_720.toInt ∧ x_720.toInt ≤ 14) := by constructor <;> omega
                                    have hclc_721 : (1 ≤ x_720.toInt ∧ x_720.toInt ≤ 13) := by constructor <;> omega
                                    refine lv_iload hx hb dX12_aligns_213 (lv_at hl 9 rfl) ?_
                                    refine tk_ViP (As := [.int p1, .int x_718, .int p3, .int x_720, .int p5]) (rest := []) (n := 5) hx hb hml hown hU hN hZ (ih_rec f_708 hG o0 mo0 ko0 p1 (by constructor <;> omega) x_718 (by constructor <;> omega) p3 (by constructor <;> omega) x_720 (by constructor <;> omega) p5 (by intro w23 w35 e23 e35; rw [hfo_711] at e23 e35; obtain rfl := Option.some.inj e23; obtain rfl := Option.some.inj e35; omega) (by omega) (by omega)) wd_1054 wd_1055 wd_1056 wd_5 wd_1057 (by decide +kernel) ⟨(show (5 + n_) + 1 ≤ 5 + (n_ + 1) by omega), (show 8 + (10 + 11) + (129 + n_ * 29) ≤ 129 + (n_ + 1) * 29 by omega)⟩ hK hP hD hS mo0 hfo_711 12 rfl rfl rfl hl.1 rfl (Nat.le_of_ble_eq_true rfl) dX12_aligns_215 ⟨Nat.le_of_ble_eq_true rfl, Nat.le_of_ble_eq_true rfl⟩ (fun x_722 f_723 H locs hw hP hD hS => ?_)
                                    obtain ⟨hG, bx_722, hkc_724⟩ := hw
                                    have hfo_726 : f_723 o0 = .inr (12, [.ref a_2, .ref a_3, .ref a_4, .int v_5, .ref a_6, .int v_7, .int v_8, .int v_9, .int v_10, .int v_11, .int v_12, .int v_13, .int v_14, .int v_15, .int v_16, .ref a_17, .ref a_18, .ref a_19, .ref a_20, .ref a_21, .ref a_22, .ref a_23, .ref a_24, .int v_25, .int v_26, .int v_27, .int v_28, .int v_29, .ref a_30, .int v_31, .ref a_32, .ref a_33, .int v_34, .int v_35, .ref a_36, .int v_37, .ref a_38, .ref a_39, .int v_40, .int v_41, .ref a_42, .ref a_43, .ref a_44, .int v_45, .ref a_46, .ref a_47, .ref a_48, .ref a_49, .ref a_50, .ref a_51, .ref a_52, .ref a_53, .ref a_54, .int v_55, .int v_56, .ref a_57]) := by rw [hkc_724 o0 (by rw [ko0]; decide) (by rw [ko0]; decide) (by rw [ko0]; decide) (by rw [ko0]; decide) (by rw [ko0]; decide) (by rw [ko0]; decide)]; exact hfo_711
                                    have hfo_727 : f_723 a_2 = .inl (cI, 1560, .inl g_661) := by rw [hkc_724 a_2 (by rw [ka_2]; decide) (by rw [ka_2]; decide) (by rw [ka_2]; decide) (by rw [ka_2]; decide) (by rw [ka_2]; decide) (by rw [ka_2]; decide)]; exact hfo_712
                                    have hfo_728 : f_723 a_36 = .inl (cI, 16, .inl g_702) := by rw [hkc_724 a_36 (by rw [ka_36]; decide) (by rw [ka_36]; decide) (by rw [ka_36]; decide) (by rw [ka_36]; decide) (by rw [ka_36]; decide) (by rw [ka_36]; decide)]; exact hfo_713
                                    have hfr0 : ∀ b, kd b ≠ 579 → kd b ≠ 581 → kd b ≠ 583 → kd b ≠ 585 → kd b ≠ 587 → kd b ≠ 588 → f_723 b = f b := fun b q579 q581 q583 q585 q587 q588 => (hkc_724 b q579 q581 q583 q585 q587 q588).trans (hfr0 b q579 q581 q583 q585 q587 q588)
                                    refine lv_if_eq (tgt := 223) hx hb dX12_aligns_218 (by decide) (fun c_729 => ?_) (fun c_729 => ?_)
                                    · skip
                                      rw [← Int32.toInt_inj, ti_0] at c_729
                                      obtain ⟨x_730, ex_730⟩ : ∃ y : Int32, y_656 + 1 = y := ⟨_, rfl⟩
                                      have hx_730 : x_730.toInt = y_656.toInt + 1 := by rw [← ex_730, ad_I (by rw [ti_1]; omega) (by rw [ti_1]; omega), ti_1]
                                      have bx_730 : (1 ≤ x_730.toInt ∧ x_730.toInt ≤ 20) := by constructor <;> omega
                                      refine lv_iinc (v := x_730) (lv' := [(6, .int x_730), (9, .int y_670), (8, .int x_669), (7, .int x_666), (0, .ref o0), (1, .int p1), (2, .int p2), (3, .int p3), (4, .int p4), (5, .int p5)]) hx hb dX12_aligns_223 hl (k := 3) rfl ex_730 (by decide) rfl (fun ls hl => ?_)
                                      refine lv_goto (tgt := 32) hx hb dX12_aligns_226 (by decide) ?_
                                      exact ih_hloop_655 x_730 (by constructor <;> omega) f_723 hG _ _ hP hS hD hfr0 hfo_726 (by omega) ls (lv_sub hl [0, 4, 5, 6, 7, 8, 9] rfl)
                                    · skip
                                      rw [← Int32.toInt_inj, ti_0] at c_729
                                      refine lv_iconst (v := 1) hx hb dX12_aligns_221 (by decide) ?_
                                      exact W.zret (v := 1) (ty := .boolean) hx hb hr rfl (fun t ht hW => ⟨⟨1, f_723, rfl, ⟨hG, (by decide), hfr0⟩, by rw [ht]; exact hP, va_K.moved hW.alike hK, pl_in hD⟩, hS.F ht⟩) hS.2.2 dX12_aligns_222
                                  · skip
                                    rw [← Int32.toInt_inj, ti_0] at c_719
                                    exfalso
                                    omega
                                · skip
                                  rw [← Int32.toInt_inj, ti_0] at c_717
                                  exfalso
                                  omega
                          · skip
                            rw [← Int32.toInt_inj] at c_704
                            refine lv_goto (tgt := 223) hx hb dX12_aligns_148 (by decide) ?_
                            obtain ⟨x_731, ex_731⟩ : ∃ y : Int32, y_656 + 1 = y := ⟨_, rfl⟩
                            have hx_731 : x_731.toInt = y_656.toInt + 1 := by rw [← ex_731, ad_I (by rw [ti_1]; omega) (by rw [ti_1]; omega), ti_1]
                            have bx_731 : (1 ≤ x_731.toInt ∧ x_731.toInt ≤ 20) := by constructor <;> omega
                            refine lv_iinc (v := x_731) (lv' := [(6, .int x_731), (9, .int y_670), (8, .int x_669), (7, .int x_666), (0, .ref o0), (1, .int p1), (2, .int p2), (3, .int p3), (4, .int p4), (5, .int p5)]) hx hb dX12_aligns_223 hl (k := 3) rfl ex_731 (by decide) rfl (fun ls hl => ?_)
                            refine lv_goto (tgt := 32) hx hb dX12_aligns_226 (by decide) ?_
                            exact ih_hloop_655 x_731 (by constructor <;> omega) f_658 hG _ _ hP hS hD hfr0 hfo_659 (by omega) ls (lv_sub hl [0, 4, 5, 6, 7, 8, 9] rfl)
                    · skip
                      rw [← Int32.toInt_inj, ti_0] at c_673
                      refine lv_iload_n hx hb dX12_aligns_105 rfl (lv_at hl 5 rfl) ?_
                      refine lv_aload_n hx hb dX12_aligns_106 rfl (lv_at hl 4 rfl) ?_
                      refine tk_getP (D := (dC, dI)) (ci := 12) (v := .int v_25) (C := RX12) (T := TX12) (N := 56) hx hb hU inlX12 hown hK hP mo0 hfo_659 rfl 23 (by decide) (hU _ wd_867) (fun _ h9 => h9) rfl dX12_aligns_107 ?_
                      refine lv_icmp_eq (tgt := 223) hx hb dX12_aligns_110 (by decide) (fun c_732 => ?_) (fun c_732 => ?_)
                      · skip
                        rw [← Int32.toInt_inj] at c_732
                        obtain ⟨x_733, ex_733⟩ : ∃ y : Int32, y_656 + 1 = y := ⟨_, rfl⟩
                        have hx_733 : x_733.toInt = y_656.toInt + 1 := by rw [← ex_733, ad_I (by rw [ti_1]; omega) (by rw [ti_1]; omega), ti_1]
                        have bx_733 : (1 ≤ x_733.toInt ∧ x_733.toInt ≤ 20) := by constructor <;> omega
                        refine lv_iinc (v := x_733) (lv' := [(6, .int x_733), (9, .int y_670), (8, .int x_669), (7, .int x_666), (0, .ref o0), (1, .int p1), (2, .int p2), (3, .int p3), (4, .int p4), (5, .int p5)]) hx hb dX12_aligns_223 hl (k := 3) rfl ex_733 (by decide) rfl (fun ls hl => ?_)
                        refine lv_goto (tgt := 32) hx hb dX12_aligns_226 (by decide) ?_
                        exact ih_hloop_655 x_733 (by constructor <;> omega) f_658 hG _ _ hP hS hD hfr0 hfo_659 (by omega) ls (lv_sub hl [0, 4, 5, 6, 7, 8, 9] rfl)
                      · skip
                        rw [← Int32.toInt_inj] at c_732
                        have hclc_734 : (0 ≤ p1.toInt ∧ p1.toInt ≤ 11) := by constructor <;> omega
                        refine lv_aload_n hx hb dX12_aligns_113 rfl (lv_at hl 4 rfl) ?_
                        refine tk_getP (D := (dC, dI)) (ci := 12) (v := .ref a_23) (C := RX12) (T := TX12) (N := 56) hx hb hU inlX12 hown hK hP mo0 hfo_659 rfl 21 (by decide) (hU _ wd_181) (fun _ h9 => h9) rfl dX12_aligns_114 ?_
                        refine lv_iload_n hx hb dX12_aligns_117 rfl (lv_at hl 5 rfl) ?_
                        obtain ⟨g_736, hfo_735, hbg_736⟩ := un_589 (hG _ ma_23) ka_23
                        refine tk_ildP hx hb hK hP 0 ma_23 hfo_735 rfl (vp_in_iff.mpr (by constructor <;> omega)) dX12_aligns_118 ?_
                        refine lv_topi (fun x_737 ex_737 => ?_)
                        have bx_737 : (0 ≤ x_737.toInt ∧ x_737.toInt ≤ 8) := by rw [ex_737]; exact hbg_736 _
                        refine lv_iload hx hb dX12_aligns_119 (lv_at hl 2 rfl) ?_
                        refine lv_icmp_ne (tgt := 223) hx hb dX12_aligns_121 (by decide) (fun c_738 => ?_) (fun c_738 => ?_)
                        · skip
                          rw [← Int32.toInt_inj] at c_738
                          obtain ⟨x_739, ex_739⟩ : ∃ y : Int32, y_656 + 1 = y := ⟨_, rfl⟩
                          have hx_739 : x_739.toInt = y_656.toInt + 1 := by rw [← ex_739, ad_I (by rw [ti_1]; omega) (by rw [ti_1]; omega), ti_1]
                          have bx_739 : (1 ≤ x_739.toInt ∧ x_739.toInt ≤ 20) := by constructor <;> omega
                          refine lv_iinc (v := x_739) (lv' := [(6, .int x_739), (9, .int y_670), (8, .int x_669), (7, .int x_666), (0, .ref o0), (1, .int p1), (2, .int p2), (3, .int p3), (4, .int p4), (5, .int p5)]) hx hb dX12_aligns_223 hl (k := 3) rfl ex_739 (by decide) rfl (fun ls hl => ?_)
                          refine lv_goto (tgt := 32) hx hb dX12_aligns_226 (by decide) ?_
                          exact ih_hloop_655 x_739 (by constructor <;> omega) f_658 hG _ _ hP hS hD hfr0 hfo_659 (by omega) ls (lv_sub hl [0, 4, 5, 6, 7, 8, 9] rfl)
                        · skip
                          rw [← Int32.toInt_inj] at c_738
                          refine lv_iload hx hb dX12_aligns_124 (lv_at hl 1 rfl) ?_
                          refine lv_if_eq (tgt := 151) hx hb dX12_aligns_126 (by decide) (fun c_740 => ?_) (fun c_740 => ?_)
                          · skip
                            rw [← Int32.toInt_inj, ti_0] at c_740
                            refine lv_aload_n hx hb dX12_aligns_151 rfl (lv_at hl 4 rfl) ?_
                            refine lv_iload hx hb dX12_aligns_152 (lv_at hl 8 rfl) ?_
                            refine lv_aload_n hx hb dX12_aligns_154 rfl (lv_at hl 4 rfl) ?_
                            refine tk_getP (D := (dC, dI)) (ci := 12) (v := .ref a_2) (C := RX12) (T := TX12) (N := 56) hx hb hU inlX12 hown hK hP mo0 hfo_659 rfl 0 (by decide) (hU _ wd_169) (fun _ h9 => h9) rfl dX12_aligns_155 ?_
                            refine lv_bipush (v := 20) hx hb dX12_aligns_158 (by decide) ?_
                            refine lv_iload hx hb dX12_aligns_160 (lv_at hl 3 rfl) ?_
                            refine lv_iadd hx hb dX12_aligns_162 ?_
                            refine lv_topi (fun x_741 ex_741 => ?_)
                            have hx_741 : x_741.toInt = 20 + y_656.toInt := by rw [ex_741, ad_I (by rw [ti_20]; omega) (by rw [ti_20]; omega), ti_20]
                            have bx_741 : (20 ≤ x_741.toInt ∧ x_741.toInt ≤ 39) := by constructor <;> omega
                            refine tk_ildP hx hb hK hP 0 ma_2 hfo_660 rfl (vp_in_iff.mpr (by constructor <;> omega)) dX12_aligns_163 ?_
                            refine lv_topi (fun x_742 ex_742 => ?_)
                            have bx_742 : (0 ≤ x_742.toInt ∧ x_742.toInt ≤ 80) := by have hc9 := cl_I (i := x_741) (by omega); rw [ex_742]; exact hbg_661.2.2.2.2.2.1 _ (by omega) (by omega) (by omega)
                            refine lv_iload hx hb dX12_aligns_164 (lv_at hl 9 rfl) ?_
                            refine tk_ViP (As := [.int p4, .int x_742, .int p5]) (rest := []) (n := 3) hx hb hml hown hU hN hZ (s_X12_reads_k12 l (dC, dI) cI cL cZ cR cG cH Z kd L f_658 hG o0 mo0 ko0 p4 (by constructor <;> omega) x_742 p5) wd_950 wd_951 wd_952 wd_5 wd_953 (by decide +kernel) ⟨(show 4 + 1 ≤ 5 + (n_ + 1) by omega), (show 8 + (5 + 11) + 105 ≤ 129 + (n_ + 1) * 29 by omega)⟩ hK hP hD hS mo0 hfo_659 12 rfl rfl rfl hl.1 rfl (Nat.le_of_ble_eq_true rfl) dX12_aligns_166 ⟨Nat.le_of_ble_eq_true rfl, Nat.le_of_ble_eq_true rfl⟩ (fun x_743 f_744 H locs hw hP hD hS => ?_)
                            obtain ⟨hG, bx_743, hkc_745⟩ := hw
                            have hfo_747 : f_744 o0 = .inr (12, [.ref a_2, .ref a_3, .ref a_4, .int v_5, .ref a_6, .int v_7, .int v_8, .int v_9, .int v_10, .int v_11, .int v_12, .int v_13, .int v_14, .int v_15, .int v_16, .ref a_17, .ref a_18, .ref a_19, .ref a_20, .ref a_21, .ref a_22, .ref a_23, .ref a_24, .int v_25, .int v_26, .int v_27, .int v_28, .int v_29, .ref a_30, .int v_31, .ref a_32, .ref a_33, .int v_34, .int v_35, .ref a_36, .int v_37, .ref a_38, .ref a_39, .int v_40, .int v_41, .ref a_42, .ref a_43, .ref a_44, .int v_45, .ref a_46, .ref a_47, .ref a_48, .ref a_49, .ref a_50, .ref a_51, .ref a_52, .ref a_53, .ref a_54, .int v_55, .int v_56, .ref a_57]) := by rw [hkc_745 o0 (by rw [ko0]; decide) (by rw [ko0]; decide) (by rw [ko0]; decide) (by rw [ko0]; decide) (by rw [ko0]; decide) (by rw [ko0]; decide)]; exact hfo_659
                            have hfo_748 : f_744 a_2 = .inl (cI, 1560, .inl g_661) := by rw [hkc_745 a_2 (by rw [ka_2]; decide) (by rw [ka_2]; decide) (by rw [ka_2]; decide) (by rw [ka_2]; decide) (by rw [ka_2]; decide) (by rw [ka_2]; decide)]; exact hfo_660
                            have hfo_749 : f_744 a_23 = .inl (cI, 16, .inl g_736) := by rw [hkc_745 a_23 (by rw [ka_23]; decide) (by rw [ka_23]; decide) (by rw [ka_23]; decide) (by rw [ka_23]; decide) (by rw [ka_23]; decide) (by rw [ka_23]; decide)]; exact hfo_735
                            have hfr0 : ∀ b, kd b ≠ 579 → kd b ≠ 581 → kd b ≠ 583 → kd b ≠ 585 → kd b ≠ 587 → kd b ≠ 588 → f_744 b = f b := fun b q579 q581 q583 q585 q587 q588 => (hkc_745 b q579 q581 q583 q585 q587 q588).trans (hfr0 b q579 q581 q583 q585 q587 q588)
                            refine lv_if_eq (tgt := 223) hx hb dX12_aligns_169 (by decide) (fun c_750 => ?_) (fun c_750 => ?_)
                            · skip
                              rw [← Int32.toInt_inj, ti_0] at c_750
                              obtain ⟨x_751, ex_751⟩ : ∃ y : Int32, y_656 + 1 = y := ⟨_, rfl⟩
                              have hx_751 : x_751.toInt = y_656.toInt + 1 := by rw [← ex_751, ad_I (by rw [ti_1]; omega) (by rw [ti_1]; omega), ti_1]
                              have bx_751 : (1 ≤ x_751.toInt ∧ x_751.toInt ≤ 20) := by constructor <;> omega
                              refine lv_iinc (v := x_751) (lv' := [(6, .int x_751), (9, .int y_670), (8, .int x_669), (7, .int x_666), (0, .ref o0), (1, .int p1), (2, .int p2), (3, .int p3), (4, .int p4), (5, .int p5)]) hx hb dX12_aligns_223 hl (k := 3) rfl ex_751 (by decide) rfl (fun ls hl => ?_)
                              refine lv_goto (tgt := 32) hx hb dX12_aligns_226 (by decide) ?_
                              exact ih_hloop_655 x_751 (by constructor <;> omega) f_744 hG _ _ hP hS hD hfr0 hfo_747 (by omega) ls (lv_sub hl [0, 4, 5, 6, 7, 8, 9] rfl)
                            · skip
                              rw [← Int32.toInt_inj, ti_0] at c_750
                              refine lv_aload_n hx hb dX12_aligns_172 rfl (lv_at hl 4 rfl) ?_
                              refine lv_iload hx hb dX12_aligns_173 (lv_at hl 2 rfl) ?_
                              refine lv_if_ne (tgt := 182) hx hb dX12_aligns_175 (by decide) (fun c_752 => ?_) (fun c_752 => ?_)
                              · skip
                                rw [← Int32.toInt_inj, ti_0] at c_752
                                refine lv_iload_n hx hb dX12_aligns_182 rfl (lv_at hl 5 rfl) ?_
                                refine lv_iconst (v := 1) hx hb dX12_aligns_183 (by decide) ?_
                                refine lv_iadd hx hb dX12_aligns_184 ?_
                                refine lv_topi (fun x_753 ex_753 => ?_)
                                have hx_753 : x_753.toInt = p1.toInt + 1 := by rw [ex_753, ad_I (by rw [ti_1]; omega) (by rw [ti_1]; omega), ti_1]
                                have bx_753 : (1 ≤ x_753.toInt ∧ x_753.toInt ≤ 12) := by constructor <;> omega
                                refine lv_iload hx hb dX12_aligns_185 (lv_at hl 1 rfl) ?_
                                refine lv_if_ne (tgt := 194) hx hb dX12_aligns_187 (by decide) (fun c_754 => ?_) (fun c_754 => ?_)
                                · skip
                                  rw [← Int32.toInt_inj, ti_0] at c_754
                                  exfalso
                                  omega
                                · skip
                                  rw [← Int32.toInt_inj, ti_0] at c_754
                                  refine lv_iload_n hx hb dX12_aligns_190 rfl (lv_at hl 6 rfl) ?_
                                  refine lv_goto (tgt := 197) hx hb dX12_aligns_191 (by decide) ?_
                                  refine lv_iload hx hb dX12_aligns_197 (lv_at hl 0 rfl) ?_
                                  refine lv_if_eq (tgt := 208) hx hb dX12_aligns_199 (by decide) (fun c_755 => ?_) (fun c_755 => ?_)
                                  · skip
                                    rw [← Int32.toInt_inj, ti_0] at c_755
                                    refine lv_iload_n hx hb dX12_aligns_208 rfl (lv_at hl 7 rfl) ?_
                                    refine lv_iload hx hb dX12_aligns_209 (lv_at hl 8 rfl) ?_
                                    refine lv_iconst (v := 1) hx hb dX12_aligns_211 (by decide) ?_
                                    refine lv_iadd hx hb dX12_aligns_212 ?_
                                    refine lv_topi (fun x_756 ex_756 => ?_)
                                    have hx_756 : x_756.toInt = p4.toInt + 1 := by rw [ex_756, ad_I (by rw [ti_1]; omega) (by rw [ti_1]; omega), ti_1]
                                    have bx_756 : (1 ≤ x_756.toInt ∧ x_756.toInt ≤ 14) := by constructor <;> omega
                                    have hclc_757 : (1 ≤ x_756.toInt ∧ x_756.toInt ≤ 13) := by constructor <;> omega
                                    refine lv_iload hx hb dX12_aligns_213 (lv_at hl 9 rfl) ?_
                                    refine tk_ViP (As := [.int x_753, .int p2, .int p3, .int x_756, .int p5]) (rest := []) (n := 5) hx hb hml hown hU hN hZ (ih_rec f_744 hG o0 mo0 ko0 x_753 (by constructor <;> omega) p2 (by constructor <;> omega) p3 (by constructor <;> omega) x_756 (by constructor <;> omega) p5 (by intro w23 w35 e23 e35; rw [hfo_747] at e23 e35; obtain rfl := Option.some.inj e23; obtain rfl := Option.some.inj e35; omega) (by omega) (by omega)) wd_1054 wd_1055 wd_1056 wd_5 wd_1057 (by decide +kernel) ⟨(show (5 + n_) + 1 ≤ 5 + (n_ + 1) by omega), (show 8 + (10 + 11) + (129 + n_ * 29) ≤ 129 + (n_ + 1) * 29 by omega)⟩ hK hP hD hS mo0 hfo_747 12 rfl rfl rfl hl.1 rfl (Nat.le_of_ble_eq_true rfl) dX12_aligns_215 ⟨Nat.le_of_ble_eq_true rfl, Nat.le_of_ble_eq_true rfl⟩ (fun x_758 f_759 H locs hw hP hD hS => ?_)
                                    obtain ⟨hG, bx_758, hkc_760⟩ := hw
                                    have hfo_762 : f_759 o0 = .inr (12, [.ref a_2, .ref a_3, .ref a_4, .int v_5, .ref a_6, .int v_7, .int v_8, .int v_9, .int v_10, .int v_11, .int v_12, .int v_13, .int v_14, .int v_15, .int v_16, .ref a_17, .ref a_18, .ref a_19, .ref a_20, .ref a_21, .ref a_22, .ref a_23, .ref a_24, .int v_25, .int v_26, .int v_27, .int v_28, .int v_29, .ref a_30, .int v_31, .ref a_32, .ref a_33, .int v_34, .int v_35, .ref a_36, .int v_37, .ref a_38, .ref a_39, .int v_40, .int v_41, .ref a_42, .ref a_43, .ref a_44, .int v_45, .ref a_46, .ref a_47, .ref a_48, .ref a_49, .ref a_50, .ref a_51, .ref a_52, .ref a_53, .ref a_54, .int v_55, .int v_56, .ref a_57]) := by rw [hkc_760 o0 (by rw [ko0]; decide) (by rw [ko0]; decide) (by rw [ko0]; decide) (by rw [ko0]; decide) (by rw [ko0]; decide) (by rw [ko0]; decide)]; exact hfo_747
                                    have hfo_763 : f_759 a_2 = .inl (cI, 1560, .inl g_661) := by rw [hkc_760 a_2 (by rw [ka_2]; decide) (by rw [ka_2]; decide) (by rw [ka_2]; decide) (by rw [ka_2]; decide) (by rw [ka_2]; decide) (by rw [ka_2]; decide)]; exact hfo_748
                                    have hfo_764 : f_759 a_23 = .inl (cI, 16, .inl g_736) := by rw [hkc_760 a_23 (by rw [ka_23]; decide) (by rw [ka_23]; decide) (by rw [ka_23]; decide) (by rw [ka_23]; decide) (by rw [ka_23]; decide) (by rw [ka_23]; decide)]; exact hfo_749
                                    have hfr0 : ∀ b, kd b ≠ 579 → kd b ≠ 581 → kd b ≠ 583 → kd b ≠ 585 → kd b ≠ 587 → kd b ≠ 588 → f_759 b = f b := fun b q579 q581 q583 q585 q587 q588 => (hkc_760 b q579 q581 q583 q585 q587 q588).trans (hfr0 b q579 q581 q583 q585 q587 q588)
                                    refine lv_if_eq (tgt := 223) hx hb dX12_aligns_218 (by decide) (fun c_765 => ?_) (fun c_765 => ?_)
                                    · skip
                                      rw [← Int32.toInt_inj, ti_0] at c_765
                                      obtain ⟨x_766, ex_766⟩ : ∃ y : Int32, y_656 + 1 = y := ⟨_, rfl⟩
                                      have hx_766 : x_766.toInt = y_656.toInt + 1 := by rw [← ex_766, ad_I (by rw [ti_1]; omega) (by rw [ti_1]; omega), ti_1]
                                      have bx_766 : (1 ≤ x_766.toInt ∧ x_766.toInt ≤ 20) := by constructor <;> omega
                                      refine lv_iinc (v := x_766) (lv' := [(6, .int x_766), (9, .int y_670), (8, .int x_669), (7, .int x_666), (0, .ref o0), (1, .int p1), (2, .int p2), (3, .int p3), (4, .int p4), (5, .int p5)]) hx hb dX12_aligns_223 hl (k := 3) rfl ex_766 (by decide) rfl (fun ls hl => ?_)
                                      refine lv_goto (tgt := 32) hx hb dX12_aligns_226 (by decide) ?_
                                      exact ih_hloop_655 x_766 (by constructor <;> omega) f_759 hG _ _ hP hS hD hfr0 hfo_762 (by omega) ls (lv_sub hl [0, 4, 5, 6, 7, 8, 9] rfl)
                                    · skip
                                      rw [← Int32.toInt_inj, ti_0] at c_765
                                      refine lv_iconst (v := 1) hx hb dX12_aligns_221 (by decide) ?_
                                      exact W.zret (v := 1) (ty := .boolean) hx hb hr rfl (fun t ht hW => ⟨⟨1, f_759, rfl, ⟨hG, (by decide), hfr0⟩, by rw [ht]; exact hP, va_K.moved hW.alike hK, pl_in hD⟩, hS.F ht⟩) hS.2.2 dX12_aligns_222
                                  · skip
                                    rw [← Int32.toInt_inj, ti_0] at c_755
                                    exfalso
                                    omega
                              · skip
                                rw [← Int32.toInt_inj, ti_0] at c_752
                                exfalso
                                omega
                          · skip
                            rw [← Int32.toInt_inj, ti_0] at c_740
                            refine lv_iload_n hx hb dX12_aligns_129 rfl (lv_at hl 6 rfl) ?_
                            refine lv_aload_n hx hb dX12_aligns_130 rfl (lv_at hl 4 rfl) ?_
                            refine tk_getP (D := (dC, dI)) (ci := 12) (v := .int v_37) (C := RX12) (T := TX12) (N := 56) hx hb hU inlX12 hown hK hP mo0 hfo_659 rfl 35 (by decide) (hU _ wd_1049) (fun _ h9 => h9) rfl dX12_aligns_131 ?_
                            refine lv_icmp_eq (tgt := 223) hx hb dX12_aligns_134 (by decide) (fun c_767 => ?_) (fun c_767 => ?_)
                            · skip
                              rw [← Int32.toInt_inj] at c_767
                              obtain ⟨x_768, ex_768⟩ : ∃ y : Int32, y_656 + 1 = y := ⟨_, rfl⟩
                              have hx_768 : x_768.toInt = y_656.toInt + 1 := by rw [← ex_768, ad_I (by rw [ti_1]; omega) (by rw [ti_1]; omega), ti_1]
                              have bx_768 : (1 ≤ x_768.toInt ∧ x_768.toInt ≤ 20) := by constructor <;> omega
                              refine lv_iinc (v := x_768) (lv' := [(6, .int x_768), (9, .int y_670), (8, .int x_669), (7, .int x_666), (0, .ref o0), (1, .int p1), (2, .int p2), (3, .int p3), (4, .int p4), (5, .int p5)]) hx hb dX12_aligns_223 hl (k := 3) rfl ex_768 (by decide) rfl (fun ls hl => ?_)
                              refine lv_goto (tgt := 32) hx hb dX12_aligns_226 (by decide) ?_
                              exact ih_hloop_655 x_768 (by constructor <;> omega) f_658 hG _ _ hP hS hD hfr0 hfo_659 (by omega) ls (lv_sub hl [0, 4, 5, 6, 7, 8, 9] rfl)
                            · skip
                              rw [← Int32.toInt_inj] at c_767
                              have hclc_769 : (0 ≤ p2.toInt ∧ p2.toInt ≤ 7) := by constructor <;> omega
                              refine lv_aload_n hx hb dX12_aligns_137 rfl (lv_at hl 4 rfl) ?_
                              refine tk_getP (D := (dC, dI)) (ci := 12) (v := .ref a_36) (C := RX12) (T := TX12) (N := 56) hx hb hU inlX12 hown hK hP mo0 hfo_659 rfl 34 (by decide) (hU _ wd_186) (fun _ h9 => h9) rfl dX12_aligns_138 ?_
                              refine lv_iload_n hx hb dX12_aligns_141 rfl (lv_at hl 6 rfl) ?_
                              obtain ⟨g_771, hfo_770, hbg_771⟩ := un_594 (hG _ ma_36) ka_36
                              refine tk_ildP hx hb hK hP 0 ma_36 hfo_770 rfl (vp_in_iff.mpr (by constructor <;> omega)) dX12_aligns_142 ?_
                              refine lv_topi (fun x_772 ex_772 => ?_)
                              have bx_772 : (0 ≤ x_772.toInt ∧ x_772.toInt ≤ 8) := by rw [ex_772]; exact hbg_771 _
                              refine lv_iload hx hb dX12_aligns_143 (lv_at hl 1 rfl) ?_
                              refine lv_icmp_eq (tgt := 151) hx hb dX12_aligns_145 (by decide) (fun c_773 => ?_) (fun c_773 => ?_)
                              · skip
                                rw [← Int32.toInt_inj] at c_773
                                refine lv_aload_n hx hb dX12_aligns_151 rfl (lv_at hl 4 rfl) ?_
                                refine lv_iload hx hb dX12_aligns_152 (lv_at hl 8 rfl) ?_
                                refine lv_aload_n hx hb dX12_aligns_154 rfl (lv_at hl 4 rfl) ?_
                                refine tk_getP (D := (dC, dI)) (ci := 12) (v := .ref a_2) (C := RX12) (T := TX12) (N := 56) hx hb hU inlX12 hown hK hP mo0 hfo_659 rfl 0 (by decide) (hU _ wd_169) (fun _ h9 => h9) rfl dX12_aligns_155 ?_
                                refine lv_bipush (v := 20) hx hb dX12_aligns_158 (by decide) ?_
                                refine lv_iload hx hb dX12_aligns_160 (lv_at hl 3 rfl) ?_
                                refine lv_iadd hx hb dX12_aligns_162 ?_
                                refine lv_topi (fun x_774 ex_774 => ?_)
                                have hx_774 : x_774.toInt = 20 + y_656.toInt := by rw [ex_774, ad_I (by rw [ti_20]; omega) (by rw [ti_20]; omega), ti_20]
                                have bx_774 : (20 ≤ x_774.toInt ∧ x_774.toInt ≤ 39) := by constructor <;> omega
                                refine tk_ildP hx hb hK hP 0 ma_2 hfo_660 rfl (vp_in_iff.mpr (by constructor <;> omega)) dX12_aligns_163 ?_
                                refine lv_topi (fun x_775 ex_775 => ?_)
                                have bx_775 : (0 ≤ x_775.toInt ∧ x_775.toInt ≤ 80) := by have hc9 := cl_I (i := x_774) (by omega); rw [ex_775]; exact hbg_661.2.2.2.2.2.1 _ (by omega) (by omega) (by omega)
                                refine lv_iload hx hb dX12_aligns_164 (lv_at hl 9 rfl) ?_
                                refine tk_ViP (As := [.int p4, .int x_775, .int p5]) (rest := []) (n := 3) hx hb hml hown hU hN hZ (s_X12_reads_k12 l (dC, dI) cI cL cZ cR cG cH Z kd L f_658 hG o0 mo0 ko0 p4 (by constructor <;> omega) x_775 p5) wd_950 wd_951 wd_952 wd_5 wd_953 (by decide +kernel) ⟨(show 4 + 1 ≤ 5 + (n_ + 1) by omega), (show 8 + (5 + 11) + 105 ≤ 129 + (n_ + 1) * 29 by omega)⟩ hK hP hD hS mo0 hfo_659 12 rfl rfl rfl hl.1 rfl (Nat.le_of_ble_eq_true rfl) dX12_aligns_166 ⟨Nat.le_of_ble_eq_true rfl, Nat.le_of_ble_eq_true rfl⟩ (fun x_776 f_777 H locs hw hP hD hS => ?_)
                                obtain ⟨hG, bx_776, hkc_778⟩ := hw
                                have hfo_780 : f_777 o0 = .inr (12, [.ref a_2, .ref a_3, .ref a_4, .int v_5, .ref a_6, .int v_7, .int v_8, .int v_9, .int v_10, .int v_11, .int v_12, .int v_13, .int v_14, .int v_15, .int v_16, .ref a_17, .ref a_18, .ref a_19, .ref a_20, .ref a_21, .ref a_22, .ref a_23, .ref a_24, .int v_25, .int v_26, .int v_27, .int v_28, .int v_29, .ref a_30, .int v_31, .ref a_32, .ref a_33, .int v_34, .int v_35, .ref a_36, .int v_37, .ref a_38, .ref a_39, .int v_40, .int v_41, .ref a_42, .ref a_43, .ref a_44, .int v_45, .ref a_46, .ref a_47, .ref a_48, .ref a_49, .ref a_50, .ref a_51, .ref a_52, .ref a_53, .ref a_54, .int v_55, .int v_56, .ref a_57]) := by rw [hkc_778 o0 (by rw [ko0]; decide) (by rw [ko0]; decide) (by rw [ko0]; decide) (by rw [ko0]; decide) (by rw [ko0]; decide) (by rw [ko0]; decide)]; exact hfo_659
                                have hfo_781 : f_777 a_2 = .inl (cI, 1560, .inl g_661) := by rw [hkc_778 a_2 (by rw [ka_2]; decide) (by rw [ka_2]; decide) (by rw [ka_2]; decide) (by rw [ka_2]; decide) (by rw [ka_2]; decide) (by rw [ka_2]; decide)]; exact hfo_660
                                have hfo_782 : f_777 a_23 = .inl (cI, 16, .inl g_736) := by rw [hkc_778 a_23 (by rw [ka_23]; decide) (by rw [ka_23]; decide) (by rw [ka_23]; decide) (by rw [ka_23]; decide) (by rw [ka_23]; decide) (by rw [ka_23]; decide)]; exact hfo_735
                                have hfo_783 : f_777 a_36 = .inl (cI, 16, .inl g_771) := by rw [hkc_778 a_36 (by rw [ka_36]; decide) (by rw [ka_36]; decide) (by rw [ka_36]; decide) (by rw [ka_36]; decide) (by rw [ka_36]; decide) (by rw [ka_36]; decide)]; exact hfo_770
                                have hfr0 : ∀ b, kd b ≠ 579 → kd b ≠ 581 → kd b ≠ 583 → kd b ≠ 585 → kd b ≠ 587 → kd b ≠ 588 → f_777 b = f b := fun b q579 q581 q583 q585 q587 q588 => (hkc_778 b q579 q581 q583 q585 q587 q588).trans (hfr0 b q579 q581 q583 q585 q587 q588)
                                refine lv_if_eq (tgt := 223) hx hb dX12_aligns_169 (by decide) (fun c_784 => ?_) (fun c_784 => ?_)
                                · skip
                                  rw [← Int32.toInt_inj, ti_0] at c_784
                                  obtain ⟨x_785, ex_785⟩ : ∃ y : Int32, y_656 + 1 = y := ⟨_, rfl⟩
                                  have hx_785 : x_785.toInt = y_656.toInt + 1 := by rw [← ex_785, ad_I (by rw [ti_1]; omega) (by rw [ti_1]; omega), ti_1]
                                  have bx_785 : (1 ≤ x_785.toInt ∧ x_785.toInt ≤ 20) := by constructor <;> omega
                                  refine lv_iinc (v := x_785) (lv' := [(6, .int x_785), (9, .int y_670), (8, .int x_669), (7, .int x_666), (0, .ref o0), (1, .int p1), (2, .int p2), (3, .int p3), (4, .int p4), (5, .int p5)]) hx hb dX12_aligns_223 hl (k := 3) rfl ex_785 (by decide) rfl (fun ls hl => ?_)
                                  refine lv_goto (tgt := 32) hx hb dX12_aligns_226 (by decide) ?_
                                  exact ih_hloop_655 x_785 (by constructor <;> omega) f_777 hG _ _ hP hS hD hfr0 hfo_780 (by omega) ls (lv_sub hl [0, 4, 5, 6, 7, 8, 9] rfl)
                                · skip
                                  rw [← Int32.toInt_inj, ti_0] at c_784
                                  refine lv_aload_n hx hb dX12_aligns_172 rfl (lv_at hl 4 rfl) ?_
                                  refine lv_iload hx hb dX12_aligns_173 (lv_at hl 2 rfl) ?_
                                  refine lv_if_ne (tgt := 182) hx hb dX12_aligns_175 (by decide) (fun c_786 => ?_) (fun c_786 => ?_)
                                  · skip
                                    rw [← Int32.toInt_inj, ti_0] at c_786
                                    refine lv_iload_n hx hb dX12_aligns_182 rfl (lv_at hl 5 rfl) ?_
                                    refine lv_iconst (v := 1) hx hb dX12_aligns_183 (by decide) ?_
                                    refine lv_iadd hx hb dX12_aligns_184 ?_
                                    refine lv_topi (fun x_787 ex_787 => ?_)
                                    have hx_787 : x_787.toInt = p1.toInt + 1 := by rw [ex_787, ad_I (by rw [ti_1]; omega) (by rw [ti_1]; omega), ti_1]
                                    have bx_787 : (1 ≤ x_787.toInt ∧ x_787.toInt ≤ 12) := by constructor <;> omega
                                    refine lv_iload hx hb dX12_aligns_185 (lv_at hl 1 rfl) ?_
                                    refine lv_if_ne (tgt := 194) hx hb dX12_aligns_187 (by decide) (fun c_788 => ?_) (fun c_788 => ?_)
                                    · skip
                                      rw [← Int32.toInt_inj, ti_0] at c_788
                                      refine lv_iload_n hx hb dX12_aligns_194 rfl (lv_at hl 6 rfl) ?_
                                      refine lv_iconst (v := 1) hx hb dX12_aligns_195 (by decide) ?_
                                      refine lv_iadd hx hb dX12_aligns_196 ?_
                                      refine lv_topi (fun x_789 ex_789 => ?_)
                                      have hx_789 : x_789.toInt = p2.toInt + 1 := by rw [ex_789, ad_I (by rw [ti_1]; omega) (by rw [ti_1]; omega), ti_1]
                                      have bx_789 : (1 ≤ x_789.toInt ∧ x_789.toInt ≤ 8) := by constructor <;> omega
                                      refine lv_iload hx hb dX12_aligns_197 (lv_at hl 0 rfl) ?_
                                      refine lv_if_eq (tgt := 208) hx hb dX12_aligns_199 (by decide) (fun c_790 => ?_) (fun c_790 => ?_)
                                      · skip
                                        rw [← Int32.toInt_inj, ti_0] at c_790
                                        refine lv_iload_n hx hb dX12_aligns_208 rfl (lv_at hl 7 rfl) ?_
                                        refine lv_iload hx hb dX12_aligns_209 (lv_at hl 8 rfl) ?_
                                        refine lv_iconst (v := 1) hx hb dX12_aligns_211 (by decide) ?_
                                        refine lv_iadd hx hb dX12_aligns_212 ?_
                                        refine lv_topi (fun x_791 ex_791 => ?_)
                                        have hx_791 : x_791.toInt = p4.toInt + 1 := by rw [ex_791, ad_I (by rw [ti_1]; omega) (by rw [ti_1]; omega), ti_1]
                                        have bx_791 : (1 ≤ x_791.toInt ∧ x_791.toInt ≤ 14) := by constructor <;> omega
                                        have hclc_792 : (1 ≤ x_791.toInt ∧ x_791.toInt ≤ 13) := by constructor <;> omega
                                        refine lv_iload hx hb dX12_aligns_213 (lv_at hl 9 rfl) ?_
                                        refine tk_ViP (As := [.int x_787, .int x_789, .int p3, .int x_791, .int p5]) (rest := []) (n := 5) hx hb hml hown hU hN hZ (ih_rec f_777 hG o0 mo0 ko0 x_787 (by constructor <;> omega) x_789 (by constructor <;> omega) p3 (by constructor <;> omega) x_791 (by constructor <;> omega) p5 (by intro w23 w35 e23 e35; rw [hfo_780] at e23 e35; obtain rfl := Option.some.inj e23; obtain rfl := Option.some.inj e35; omega) (by omega) (by omega)) wd_1054 wd_1055 wd_1056 wd_5 wd_1057 (by decide +kernel) ⟨(show (5 + n_) + 1 ≤ 5 + (n_ + 1) by omega), (show 8 + (10 + 11) + (129 + n_ * 29) ≤ 129 + (n_ + 1) * 29 by omega)⟩ hK hP hD hS mo0 hfo_780 12 rfl rfl rfl hl.1 rfl (Nat.le_of_ble_eq_true rfl) dX12_aligns_215 ⟨Nat.le_of_ble_eq_true rfl, Nat.le_of_ble_eq_true rfl⟩ (fun x_793 f_794 H locs hw hP hD hS => ?_)
                                        obtain ⟨hG, bx_793, hkc_795⟩ := hw
                                        have hfo_797 : f_794 o0 = .inr (12, [.ref a_2, .ref a_3, .ref a_4, .int v_5, .ref a_6, .int v_7, .int v_8, .int v_9, .int v_10, .int v_11, .int v_12, .int v_13, .int v_14, .int v_15, .int v_16, .ref a_17, .ref a_18, .ref a_19, .ref a_20, .ref a_21, .ref a_22, .ref a_23, .ref a_24, .int v_25, .int v_26, .int v_27, .int v_28, .int v_29, .ref a_30, .int v_31, .ref a_32, .ref a_33, .int v_34, .int v_35, .ref a_36, .int v_37, .ref a_38, .ref a_39, .int v_40, .int v_41, .ref a_42, .ref a_43, .ref a_44, .int v_45, .ref a_46, .ref a_47, .ref a_48, .ref a_49, .ref a_50, .ref a_51, .ref a_52, .ref a_53, .ref a_54, .int v_55, .int v_56, .ref a_57]) := by rw [hkc_795 o0 (by rw [ko0]; decide) (by rw [ko0]; decide) (by rw [ko0]; decide) (by rw [ko0]; decide) (by rw [ko0]; decide) (by rw [ko0]; decide)]; exact hfo_780
                                        have hfo_798 : f_794 a_2 = .inl (cI, 1560, .inl g_661) := by rw [hkc_795 a_2 (by rw [ka_2]; decide) (by rw [ka_2]; decide) (by rw [ka_2]; decide) (by rw [ka_2]; decide) (by rw [ka_2]; decide) (by rw [ka_2]; decide)]; exact hfo_781
                                        have hfo_799 : f_794 a_23 = .inl (cI, 16, .inl g_736) := by rw [hkc_795 a_23 (by rw [ka_23]; decide) (by rw [ka_23]; decide) (by rw [ka_23]; decide) (by rw [ka_23]; decide) (by rw [ka_23]; decide) (by rw [ka_23]; decide)]; exact hfo_782
                                        have hfo_800 : f_794 a_36 = .inl (cI, 16, .inl g_771) := by rw [hkc_795 a_36 (by rw [ka_36]; decide) (by rw [ka_36]; decide) (by rw [ka_36]; decide) (by rw [ka_36]; decide) (by rw [ka_36]; decide) (by rw [ka_36]; decide)]; exact hfo_783
                                        have hfr0 : ∀ b, kd b ≠ 579 → kd b ≠ 581 → kd b ≠ 583 → kd b ≠ 585 → kd b ≠ 587 → kd b ≠ 588 → f_794 b = f b := fun b q579 q581 q583 q585 q587 q588 => (hkc_795 b q579 q581 q583 q585 q587 q588).trans (hfr0 b q579 q581 q583 q585 q587 q588)
                                        refine lv_if_eq (tgt := 223) hx hb dX12_aligns_218 (by decide) (fun c_801 => ?_) (fun c_801 => ?_)
                                        · skip
                                          rw [← Int32.toInt_inj, ti_0] at c_801
                                          obtain ⟨x_802, ex_802⟩ : ∃ y : Int32, y_656 + 1 = y := ⟨_, rfl⟩
                                          have hx_802 : x_802.toInt = y_656.toInt + 1 := by rw [← ex_802, ad_I (by rw [ti_1]; omega) (by rw [ti_1]; omega), ti_1]
                                          have bx_802 : (1 ≤ x_802.toInt ∧ x_802.toInt ≤ 20) := by constructor <;> omega
                                          refine lv_iinc (v := x_802) (lv' := [(6, .int x_802), (9, .int y_670), (8, .int x_669), (7, .int x_666), (0, .ref o0), (1, .int p1), (2, .int p2), (3, .int p3), (4, .int p4), (5, .int p5)]) hx hb dX12_aligns_223 hl (k := 3) rfl ex_802 (by decide) rfl (fun ls hl => ?_)
                                          refine lv_goto (tgt := 32) hx hb dX12_aligns_226 (by decide) ?_
                                          exact ih_hloop_655 x_802 (by constructor <;> omega) f_794 hG _ _ hP hS hD hfr0 hfo_797 (by omega) ls (lv_sub hl [0, 4, 5, 6, 7, 8, 9] rfl)
                                        · skip
                                          rw [← Int32.toInt_inj, ti_0] at c_801
                                          refine lv_iconst (v := 1) hx hb dX12_aligns_221 (by decide) ?_
                                          exact W.zret (v := 1) (ty := .boolean) hx hb hr rfl (fun t ht hW => ⟨⟨1, f_794, rfl, ⟨hG, (by decide), hfr0⟩, by rw [ht]; exact hP, va_K.moved hW.alike hK, pl_in hD⟩, hS.F ht⟩) hS.2.2 dX12_aligns_222
                                      · skip
                                        rw [← Int32.toInt_inj, ti_0] at c_790
                                        exfalso
                                        omega
                                    · skip
                                      rw [← Int32.toInt_inj, ti_0] at c_788
                                      exfalso
                                      omega
                                  · skip
                                    rw [← Int32.toInt_inj, ti_0] at c_786
                                    exfalso
                                    omega
                              · skip
                                rw [← Int32.toInt_inj] at c_773
                                refine lv_goto (tgt := 223) hx hb dX12_aligns_148 (by decide) ?_
                                obtain ⟨x_803, ex_803⟩ : ∃ y : Int32, y_656 + 1 = y := ⟨_, rfl⟩
                                have hx_803 : x_803.toInt = y_656.toInt + 1 := by rw [← ex_803, ad_I (by rw [ti_1]; omega) (by rw [ti_1]; omega), ti_1]
                                have bx_803 : (1 ≤ x_803.toInt ∧ x_803.toInt ≤ 20) := by constructor <;> omega
                                refine lv_iinc (v := x_803) (lv' := [(6, .int x_803), (9, .int y_670), (8, .int x_669), (7, .int x_666), (0, .ref o0), (1, .int p1), (2, .int p2), (3, .int p3), (4, .int p4), (5, .int p5)]) hx hb dX12_aligns_223 hl (k := 3) rfl ex_803 (by decide) rfl (fun ls hl => ?_)
                                refine lv_goto (tgt := 32) hx hb dX12_aligns_226 (by decide) ?_
                                exact ih_hloop_655 x_803 (by constructor <;> omega) f_658 hG _ _ hP hS hD hfr0 hfo_659 (by omega) ls (lv_sub hl [0, 4, 5, 6, 7, 8, 9] rfl)
                  · skip
                    rw [← Int32.toInt_inj, ti_0] at c_672
                    refine lv_iload_n hx hb dX12_aligns_96 rfl (lv_at hl 7 rfl) ?_
                    refine lv_if_eq (tgt := 223) hx hb dX12_aligns_97 (by decide) (fun c_804 => ?_) (fun c_804 => ?_)
                    · skip
                      rw [← Int32.toInt_inj, ti_0] at c_804
                      obtain ⟨x_805, ex_805⟩ : ∃ y : Int32, y_656 + 1 = y := ⟨_, rfl⟩
                      have hx_805 : x_805.toInt = y_656.toInt + 1 := by rw [← ex_805, ad_I (by rw [ti_1]; omega) (by rw [ti_1]; omega), ti_1]
                      have bx_805 : (1 ≤ x_805.toInt ∧ x_805.toInt ≤ 20) := by constructor <;> omega
                      refine lv_iinc (v := x_805) (lv' := [(6, .int x_805), (9, .int y_670), (8, .int x_669), (7, .int x_666), (0, .ref o0), (1, .int p1), (2, .int p2), (3, .int p3), (4, .int p4), (5, .int p5)]) hx hb dX12_aligns_223 hl (k := 3) rfl ex_805 (by decide) rfl (fun ls hl => ?_)
                      refine lv_goto (tgt := 32) hx hb dX12_aligns_226 (by decide) ?_
                      exact ih_hloop_655 x_805 (by constructor <;> omega) f_658 hG _ _ hP hS hD hfr0 hfo_659 (by omega) ls (lv_sub hl [0, 4, 5, 6, 7, 8, 9] rfl)
                    · skip
                      rw [← Int32.toInt_inj, ti_0] at c_804
                      refine lv_iload hx hb dX12_aligns_100 (lv_at hl 2 rfl) ?_
                      refine lv_if_eq (tgt := 124) hx hb dX12_aligns_102 (by decide) (fun c_806 => ?_) (fun c_806 => ?_)
                      · skip
                        rw [← Int32.toInt_inj, ti_0] at c_806
                        refine lv_iload hx hb dX12_aligns_124 (lv_at hl 1 rfl) ?_
                        refine lv_if_eq (tgt := 151) hx hb dX12_aligns_126 (by decide) (fun c_807 => ?_) (fun c_807 => ?_)
                        · skip
                          rw [← Int32.toInt_inj, ti_0] at c_807
                          refine lv_aload_n hx hb dX12_aligns_151 rfl (lv_at hl 4 rfl) ?_
                          refine lv_iload hx hb dX12_aligns_152 (lv_at hl 8 rfl) ?_
                          refine lv_aload_n hx hb dX12_aligns_154 rfl (lv_at hl 4 rfl) ?_
                          refine tk_getP (D := (dC, dI)) (ci := 12) (v := .ref a_2) (C := RX12) (T := TX12) (N := 56) hx hb hU inlX12 hown hK hP mo0 hfo_659 rfl 0 (by decide) (hU _ wd_169) (fun _ h9 => h9) rfl dX12_aligns_155 ?_
                          refine lv_bipush (v := 20) hx hb dX12_aligns_158 (by decide) ?_
                          refine lv_iload hx hb dX12_aligns_160 (lv_at hl 3 rfl) ?_
                          refine lv_iadd hx hb dX12_aligns_162 ?_
                          refine lv_topi (fun x_808 ex_808 => ?_)
                          have hx_808 : x_808.toInt = 20 + y_656.toInt := by rw [ex_808, ad_I (by rw [ti_20]; omega) (by rw [ti_20]; omega), ti_20]
                          have bx_808 : (20 ≤ x_808.toInt ∧ x_808.toInt ≤ 39) := by constructor <;> omega
                          refine tk_ildP hx hb hK hP 0 ma_2 hfo_660 rfl (vp_in_iff.mpr (by constructor <;> omega)) dX12_aligns_163 ?_
                          refine lv_topi (fun x_809 ex_809 => ?_)
                          have bx_809 : (0 ≤ x_809.toInt ∧ x_809.toInt ≤ 80) := by have hc9 := cl_I (i := x_808) (by omega); rw [ex_809]; exact hbg_661.2.2.2.2.2.1 _ (by omega) (by omega) (by omega)
                          refine lv_iload hx hb dX12_aligns_164 (lv_at hl 9 rfl) ?_
                          refine tk_ViP (As := [.int p4, .int x_809, .int p5]) (rest := []) (n := 3) hx hb hml hown hU hN hZ (s_X12_reads_k12 l (dC, dI) cI cL cZ cR cG cH Z kd L f_658 hG o0 mo0 ko0 p4 (by constructor <;> omega) x_809 p5) wd_950 wd_951 wd_952 wd_5 wd_953 (by decide +kernel) ⟨(show 4 + 1 ≤ 5 + (n_ + 1) by omega), (show 8 + (5 + 11) + 105 ≤ 129 + (n_ + 1) * 29 by omega)⟩ hK hP hD hS mo0 hfo_659 12 rfl rfl rfl hl.1 rfl (Nat.le_of_ble_eq_true rfl) dX12_aligns_166 ⟨Nat.le_of_ble_eq_true rfl, Nat.le_of_ble_eq_true rfl⟩ (fun x_810 f_811 H locs hw hP hD hS => ?_)
                          obtain ⟨hG, bx_810, hkc_812⟩ := hw
                          have hfo_814 : f_811 o0 = .inr (12, [.ref a_2, .ref a_3, .ref a_4, .int v_5, .ref a_6, .int v_7, .int v_8, .int v_9, .int v_10, .int v_11, .int v_12, .int v_13, .int v_14, .int v_15, .int v_16, .ref a_17, .ref a_18, .ref a_19, .ref a_20, .ref a_21, .ref a_22, .ref a_23, .ref a_24, .int v_25, .int v_26, .int v_27, .int v_28, .int v_29, .ref a_30, .int v_31, .ref a_32, .ref a_33, .int v_34, .int v_35, .ref a_36, .int v_37, .ref a_38, .ref a_39, .int v_40, .int v_41, .ref a_42, .ref a_43, .ref a_44, .int v_45, .ref a_46, .ref a_47, .ref a_48, .ref a_49, .ref a_50, .ref a_51, .ref a_52, .ref a_53, .ref a_54, .int v_55, .int v_56, .ref a_57]) := by rw [hkc_812 o0 (by rw [ko0]; decide) (by rw [ko0]; decide) (by rw [ko0]; decide) (by rw [ko0]; decide) (by rw [ko0]; decide) (by rw [ko0]; decide)]; exact hfo_659
                          have hfo_815 : f_811 a_2 = .inl (cI, 1560, .inl g_661) := by rw [hkc_812 a_2 (by rw [ka_2]; decide) (by rw [ka_2]; decide) (by rw [ka_2]; decide) (by rw [ka_2]; decide) (by rw [ka_2]; decide) (by rw [ka_2]; decide)]; exact hfo_660
                          have hfr0 : ∀ b, kd b ≠ 579 → kd b ≠ 581 → kd b ≠ 583 → kd b ≠ 585 → kd b ≠ 587 → kd b ≠ 588 → f_811 b = f b := fun b q579 q581 q583 q585 q587 q588 => (hkc_812 b q579 q581 q583 q585 q587 q588).trans (hfr0 b q579 q581 q583 q585 q587 q588)
                          refine lv_if_eq (tgt := 223) hx hb dX12_aligns_169 (by decide) (fun c_816 => ?_) (fun c_816 => ?_)
                          · skip
                            rw [← Int32.toInt_inj, ti_0] at c_816
                            obtain ⟨x_817, ex_817⟩ : ∃ y : Int32, y_656 + 1 = y := ⟨_, rfl⟩
                            have hx_817 : x_817.toInt = y_656.toInt + 1 := by rw [← ex_817, ad_I (by rw [ti_1]; omega) (by rw [ti_1]; omega), ti_1]
                            have bx_817 : (1 ≤ x_817.toInt ∧ x_817.toInt ≤ 20) := by constructor <;> omega
                            refine lv_iinc (v := x_817) (lv' := [(6, .int x_817), (9, .int y_670), (8, .int x_669), (7, .int x_666), (0, .ref o0), (1, .int p1), (2, .int p2), (3, .int p3), (4, .int p4), (5, .int p5)]) hx hb dX12_aligns_223 hl (k := 3) rfl ex_817 (by decide) rfl (fun ls hl => ?_)
                            refine lv_goto (tgt := 32) hx hb dX12_aligns_226 (by decide) ?_
                            exact ih_hloop_655 x_817 (by constructor <;> omega) f_811 hG _ _ hP hS hD hfr0 hfo_814 (by omega) ls (lv_sub hl [0, 4, 5, 6, 7, 8, 9] rfl)
                          · skip
                            rw [← Int32.toInt_inj, ti_0] at c_816
                            refine lv_aload_n hx hb dX12_aligns_172 rfl (lv_at hl 4 rfl) ?_
                            refine lv_iload hx hb dX12_aligns_173 (lv_at hl 2 rfl) ?_
                            refine lv_if_ne (tgt := 182) hx hb dX12_aligns_175 (by decide) (fun c_818 => ?_) (fun c_818 => ?_)
                            · skip
                              rw [← Int32.toInt_inj, ti_0] at c_818
                              exfalso
                              omega
                            · skip
                              rw [← Int32.toInt_inj, ti_0] at c_818
                              refine lv_iload_n hx hb dX12_aligns_178 rfl (lv_at hl 5 rfl) ?_
                              refine lv_goto (tgt := 185) hx hb dX12_aligns_179 (by decide) ?_
                              refine lv_iload hx hb dX12_aligns_185 (lv_at hl 1 rfl) ?_
                              refine lv_if_ne (tgt := 194) hx hb dX12_aligns_187 (by decide) (fun c_819 => ?_) (fun c_819 => ?_)
                              · skip
                                rw [← Int32.toInt_inj, ti_0] at c_819
                                exfalso
                                omega
                              · skip
                                rw [← Int32.toInt_inj, ti_0] at c_819
                                refine lv_iload_n hx hb dX12_aligns_190 rfl (lv_at hl 6 rfl) ?_
                                refine lv_goto (tgt := 197) hx hb dX12_aligns_191 (by decide) ?_
                                refine lv_iload hx hb dX12_aligns_197 (lv_at hl 0 rfl) ?_
                                refine lv_if_eq (tgt := 208) hx hb dX12_aligns_199 (by decide) (fun c_820 => ?_) (fun c_820 => ?_)
                                · skip
                                  rw [← Int32.toInt_inj, ti_0] at c_820
                                  exfalso
                                  omega
                                · skip
                                  rw [← Int32.toInt_inj, ti_0] at c_820
                                  refine lv_iload_n hx hb dX12_aligns_202 rfl (lv_at hl 7 rfl) ?_
                                  refine lv_iconst (v := 1) hx hb dX12_aligns_203 (by decide) ?_
                                  refine lv_isub hx hb dX12_aligns_204 ?_
                                  refine lv_topi (fun x_821 ex_821 => ?_)
                                  have hx_821 : x_821.toInt = p3.toInt - 1 := by rw [ex_821, sb_I (by rw [ti_1]; omega) (by rw [ti_1]; omega), ti_1]
                                  have bx_821 : (0 ≤ x_821.toInt ∧ x_821.toInt ≤ 0) := by constructor <;> omega
                                  refine lv_goto (tgt := 209) hx hb dX12_aligns_205 (by decide) ?_
                                  refine lv_iload hx hb dX12_aligns_209 (lv_at hl 8 rfl) ?_
                                  refine lv_iconst (v := 1) hx hb dX12_aligns_211 (by decide) ?_
                                  refine lv_iadd hx hb dX12_aligns_212 ?_
                                  refine lv_topi (fun x_822 ex_822 => ?_)
                                  have hx_822 : x_822.toInt = p4.toInt + 1 := by rw [ex_822, ad_I (by rw [ti_1]; omega) (by rw [ti_1]; omega), ti_1]
                                  have bx_822 : (1 ≤ x_822.toInt ∧ x_822.toInt ≤ 14) := by constructor <;> omega
                                  have hclc_823 : (1 ≤ x_822.toInt ∧ x_822.toInt ≤ 13) := by constructor <;> omega
                                  refine lv_iload hx hb dX12_aligns_213 (lv_at hl 9 rfl) ?_
                                  refine tk_ViP (As := [.int p1, .int p2, .int x_821, .int x_822, .int p5]) (rest := []) (n := 5) hx hb hml hown hU hN hZ (ih_rec f_811 hG o0 mo0 ko0 p1 (by constructor <;> omega) p2 (by constructor <;> omega) x_821 (by constructor <;> omega) x_822 (by constructor <;> omega) p5 (by intro w23 w35 e23 e35; rw [hfo_814] at e23 e35; obtain rfl := Option.some.inj e23; obtain rfl := Option.some.inj e35; omega) (by omega) (by omega)) wd_1054 wd_1055 wd_1056 wd_5 wd_1057 (by decide +kernel) ⟨(show (5 + n_) + 1 ≤ 5 + (n_ + 1) by omega), (show 8 + (10 + 11) + (129 + n_ * 29) ≤ 129 + (n_ + 1) * 29 by omega)⟩ hK hP hD hS mo0 hfo_814 12 rfl rfl rfl hl.1 rfl (Nat.le_of_ble_eq_true rfl) dX12_aligns_215 ⟨Nat.le_of_ble_eq_true rfl, Nat.le_of_ble_eq_true rfl⟩ (fun x_824 f_825 H locs hw hP hD hS => ?_)
                                  obtain ⟨hG, bx_824, hkc_826⟩ := hw
                                  have hfo_828 : f_825 o0 = .inr (12, [.ref a_2, .ref a_3, .ref a_4, .int v_5, .ref a_6, .int v_7, .int v_8, .int v_9, .int v_10, .int v_11, .int v_12, .int v_13, .int v_14, .int v_15, .int v_16, .ref a_17, .ref a_18, .ref a_19, .ref a_20, .ref a_21, .ref a_22, .ref a_23, .ref a_24, .int v_25, .int v_26, .int v_27, .int v_28, .int v_29, .ref a_30, .int v_31, .ref a_32, .ref a_33, .int v_34, .int v_35, .ref a_36, .int v_37, .ref a_38, .ref a_39, .int v_40, .int v_41, .ref a_42, .ref a_43, .ref a_44, .int v_45, .ref a_46, .ref a_47, .ref a_48, .ref a_49, .ref a_50, .ref a_51, .ref a_52, .ref a_53, .ref a_54, .int v_55, .int v_56, .ref a_57]) := by rw [hkc_826 o0 (by rw [ko0]; decide) (by rw [ko0]; decide) (by rw [ko0]; decide) (by rw [ko0]; decide) (by rw [ko0]; decide) (by rw [ko0]; decide)]; exact hfo_814
                                  have hfo_829 : f_825 a_2 = .inl (cI, 1560, .inl g_661) := by rw [hkc_826 a_2 (by rw [ka_2]; decide) (by rw [ka_2]; decide) (by rw [ka_2]; decide) (by rw [ka_2]; decide) (by rw [ka_2]; decide) (by rw [ka_2]; decide)]; exact hfo_815
                                  have hfr0 : ∀ b, kd b ≠ 579 → kd b ≠ 581 → kd b ≠ 583 → kd b ≠ 585 → kd b ≠ 587 → kd b ≠ 588 → f_825 b = f b := fun b q579 q581 q583 q585 q587 q588 => (hkc_826 b q579 q581 q583 q585 q587 q588).trans (hfr0 b q579 q581 q583 q585 q587 q588)
                                  refine lv_if_eq (tgt := 223) hx hb dX12_aligns_218 (by decide) (fun c_830 => ?_) (fun c_830 => ?_)
                                  · skip
                                    rw [← Int32.toInt_inj, ti_0] at c_830
                                    obtain ⟨x_831, ex_831⟩ : ∃ y : Int32, y_656 + 1 = y := ⟨_, rfl⟩
                                    have hx_831 : x_831.toInt = y_656.toInt + 1 := by rw [← ex_831, ad_I (by rw [ti_1]; omega) (by rw [ti_1]; omega), ti_1]
                                    have bx_831 : (1 ≤ x_831.toInt ∧ x_831.toInt ≤ 20) := by constructor <;> omega
                                    refine lv_iinc (v := x_831) (lv' := [(6, .int x_831), (9, .int y_670), (8, .int x_669), (7, .int x_666), (0, .ref o0), (1, .int p1), (2, .int p2), (3, .int p3), (4, .int p4), (5, .int p5)]) hx hb dX12_aligns_223 hl (k := 3) rfl ex_831 (by decide) rfl (fun ls hl => ?_)
                                    refine lv_goto (tgt := 32) hx hb dX12_aligns_226 (by decide) ?_
                                    exact ih_hloop_655 x_831 (by constructor <;> omega) f_825 hG _ _ hP hS hD hfr0 hfo_828 (by omega) ls (lv_sub hl [0, 4, 5, 6, 7, 8, 9] rfl)
                                  · skip
                                    rw [← Int32.toInt_inj, ti_0] at c_830
                                    refine lv_iconst (v := 1) hx hb dX12_aligns_221 (by decide) ?_
                                    exact W.zret (v := 1) (ty := .boolean) hx hb hr rfl (fun t ht hW => ⟨⟨1, f_825, rfl, ⟨hG, (by decide), hfr0⟩, by rw [ht]; exact hP, va_K.moved hW.alike hK, pl_in hD⟩, hS.F ht⟩) hS.2.2 dX12_aligns_222
                        · skip
                          rw [← Int32.toInt_inj, ti_0] at c_807
                          refine lv_iload_n hx hb dX12_aligns_129 rfl (lv_at hl 6 rfl) ?_
                          refine lv_aload_n hx hb dX12_aligns_130 rfl (lv_at hl 4 rfl) ?_
                          refine tk_getP (D := (dC, dI)) (ci := 12) (v := .int v_37) (C := RX12) (T := TX12) (N := 56) hx hb hU inlX12 hown hK hP mo0 hfo_659 rfl 35 (by decide) (hU _ wd_1049) (fun _ h9 => h9) rfl dX12_aligns_131 ?_
                          refine lv_icmp_eq (tgt := 223) hx hb dX12_aligns_134 (by decide) (fun c_832 => ?_) (fun c_832 => ?_)
                          · skip
                            rw [← Int32.toInt_inj] at c_832
                            obtain ⟨x_833, ex_833⟩ : ∃ y : Int32, y_656 + 1 = y := ⟨_, rfl⟩
                            have hx_833 : x_833.toInt = y_656.toInt + 1 := by rw [← ex_833, ad_I (by rw [ti_1]; omega) (by rw [ti_1]; omega), ti_1]
                            have bx_833 : (1 ≤ x_833.toInt ∧ x_833.toInt ≤ 20) := by constructor <;> omega
                            refine lv_iinc (v := x_833) (lv' := [(6, .int x_833), (9, .int y_670), (8, .int x_669), (7, .int x_666), (0, .ref o0), (1, .int p1), (2, .int p2), (3, .int p3), (4, .int p4), (5, .int p5)]) hx hb dX12_aligns_223 hl (k := 3) rfl ex_833 (by decide) rfl (fun ls hl => ?_)
                            refine lv_goto (tgt := 32) hx hb dX12_aligns_226 (by decide) ?_
                            exact ih_hloop_655 x_833 (by constructor <;> omega) f_658 hG _ _ hP hS hD hfr0 hfo_659 (by omega) ls (lv_sub hl [0, 4, 5, 6, 7, 8, 9] rfl)
                          · skip
                            rw [← Int32.toInt_inj] at c_832
                            have hclc_834 : (0 ≤ p2.toInt ∧ p2.toInt ≤ 7) := by constructor <;> omega
                            refine lv_aload_n hx hb dX12_aligns_137 rfl (lv_at hl 4 rfl) ?_
                            refine tk_getP (D := (dC, dI)) (ci := 12) (v := .ref a_36) (C := RX12) (T := TX12) (N := 56) hx hb hU inlX12 hown hK hP mo0 hfo_659 rfl 34 (by decide) (hU _ wd_186) (fun _ h9 => h9) rfl dX12_aligns_138 ?_
                            refine lv_iload_n hx hb dX12_aligns_141 rfl (lv_at hl 6 rfl) ?_
                            obtain ⟨g_836, hfo_835, hbg_836⟩ := un_594 (hG _ ma_36) ka_36
                            refine tk_ildP hx hb hK hP 0 ma_36 hfo_835 rfl (vp_in_iff.mpr (by constructor <;> omega)) dX12_aligns_142 ?_
                            refine lv_topi (fun x_837 ex_837 => ?_)
                            have bx_837 : (0 ≤ x_837.toInt ∧ x_837.toInt ≤ 8) := by rw [ex_837]; exact hbg_836 _
                            refine lv_iload hx hb dX12_aligns_143 (lv_at hl 1 rfl) ?_
                            refine lv_icmp_eq (tgt := 151) hx hb dX12_aligns_145 (by decide) (fun c_838 => ?_) (fun c_838 => ?_)
                            · skip
                              rw [← Int32.toInt_inj] at c_838
                              refine lv_aload_n hx hb dX12_aligns_151 rfl (lv_at hl 4 rfl) ?_
                              refine lv_iload hx hb dX12_aligns_152 (lv_at hl 8 rfl) ?_
                              refine lv_aload_n hx hb dX12_aligns_154 rfl (lv_at hl 4 rfl) ?_
                              refine tk_getP (D := (dC, dI)) (ci := 12) (v := .ref a_2) (C := RX12) (T := TX12) (N := 56) hx hb hU inlX12 hown hK hP mo0 hfo_659 rfl 0 (by decide) (hU _ wd_169) (fun _ h9 => h9) rfl dX12_aligns_155 ?_
                              refine lv_bipush (v := 20) hx hb dX12_aligns_158 (by decide) ?_
                              refine lv_iload hx hb dX12_aligns_160 (lv_at hl 3 rfl) ?_
                              refine lv_iadd hx hb dX12_aligns_162 ?_
                              refine lv_topi (fun x_839 ex_839 => ?_)
                              have hx_839 : x_839.toInt = 20 + y_656.toInt := by rw [ex_839, ad_I (by rw [ti_20]; omega) (by rw [ti_20]; omega), ti_20]
                              have bx_839 : (20 ≤ x_839.toInt ∧ x_839.toInt ≤ 39) := by constructor <;> omega
                              refine tk_ildP hx hb hK hP 0 ma_2 hfo_660 rfl (vp_in_iff.mpr (by constructor <;> omega)) dX12_aligns_163 ?_
                              refine lv_topi (fun x_840 ex_840 => ?_)
                              have bx_840 : (0 ≤ x_840.toInt ∧ x_840.toInt ≤ 80) := by have hc9 := cl_I (i := x_839) (by omega); rw [ex_840]; exact hbg_661.2.2.2.2.2.1 _ (by omega) (by omega) (by omega)
                              refine lv_iload hx hb dX12_aligns_164 (lv_at hl 9 rfl) ?_
                              refine tk_ViP (As := [.int p4, .int x_840, .int p5]) (rest := []) (n := 3) hx hb hml hown hU hN hZ (s_X12_reads_k12 l (dC, dI) cI cL cZ cR cG cH Z kd L f_658 hG o0 mo0 ko0 p4 (by constructor <;> omega) x_840 p5) wd_950 wd_951 wd_952 wd_5 wd_953 (by decide +kernel) ⟨(show 4 + 1 ≤ 5 + (n_ + 1) by omega), (show 8 + (5 + 11) + 105 ≤ 129 + (n_ + 1) * 29 by omega)⟩ hK hP hD hS mo0 hfo_659 12 rfl rfl rfl hl.1 rfl (Nat.le_of_ble_eq_true rfl) dX12_aligns_166 ⟨Nat.le_of_ble_eq_true rfl, Nat.le_of_ble_eq_true rfl⟩ (fun x_841 f_842 H locs hw hP hD hS => ?_)
                              obtain ⟨hG, bx_841, hkc_843⟩ := hw
                              have hfo_845 : f_842 o0 = .inr (12, [.ref a_2, .ref a_3, .ref a_4, .int v_5, .ref a_6, .int v_7, .int v_8, .int v_9, .int v_10, .int v_11, .int v_12, .int v_13, .int v_14, .int v_15, .int v_16, .ref a_17, .ref a_18, .ref a_19, .ref a_20, .ref a_21, .ref a_22, .ref a_23, .ref a_24, .int v_25, .int v_26, .int v_27, .int v_28, .int v_29, .ref a_30, .int v_31, .ref a_32, .ref a_33, .int v_34, .int v_35, .ref a_36, .int v_37, .ref a_38, .ref a_39, .int v_40, .int v_41, .ref a_42, .ref a_43, .ref a_44, .int v_45, .ref a_46, .ref a_47, .ref a_48, .ref a_49, .ref a_50, .ref a_51, .ref a_52, .ref a_53, .ref a_54, .int v_55, .int v_56, .ref a_57]) := by rw [hkc_843 o0 (by rw [ko0]; decide) (by rw [ko0]; decide) (by rw [ko0]; decide) (by rw [ko0]; decide) (by rw [ko0]; decide) (by rw [ko0]; decide)]; exact hfo_659
                              have hfo_846 : f_842 a_2 = .inl (cI, 1560, .inl g_661) := by rw [hkc_843 a_2 (by rw [ka_2]; decide) (by rw [ka_2]; decide) (by rw [ka_2]; decide) (by rw [ka_2]; decide) (by rw [ka_2]; decide) (by rw [ka_2]; decide)]; exact hfo_660
                              have hfo_847 : f_842 a_36 = .inl (cI, 16, .inl g_836) := by rw [hkc_843 a_36 (by rw [ka_36]; decide) (by rw [ka_36]; decide) (by rw [ka_36]; decide) (by rw [ka_36]; decide) (by rw [ka_36]; decide) (by rw [ka_36]; decide)]; exact hfo_835
                              have hfr0 : ∀ b, kd b ≠ 579 → kd b ≠ 581 → kd b ≠ 583 → kd b ≠ 585 → kd b ≠ 587 → kd b ≠ 588 → f_842 b = f b := fun b q579 q581 q583 q585 q587 q588 => (hkc_843 b q579 q581 q583 q585 q587 q588).trans (hfr0 b q579 q581 q583 q585 q587 q588)
                              refine lv_if_eq (tgt := 223) hx hb dX12_aligns_169 (by decide) (fun c_848 => ?_) (fun c_848 => ?_)
                              · skip
                                rw [← Int32.toInt_inj, ti_0] at c_848
                                obtain ⟨x_849, ex_849⟩ : ∃ y : Int32, y_656 + 1 = y := ⟨_, rfl⟩
                                have hx_849 : x_849.toInt = y_656.toInt + 1 := by rw [← ex_849, ad_I (by rw [ti_1]; omega) (by rw [ti_1]; omega), ti_1]
                                have bx_849 : (1 ≤ x_849.toInt ∧ x_849.toInt ≤ 20) := by constructor <;> omega
                                refine lv_iinc (v := x_849) (lv' := [(6, .int x_849), (9, .int y_670), (8, .int x_669), (7, .int x_666), (0, .ref o0), (1, .int p1), (2, .int p2), (3, .int p3), (4, .int p4), (5, .int p5)]) hx hb dX12_aligns_223 hl (k := 3) rfl ex_849 (by decide) rfl (fun ls hl => ?_)
                                refine lv_goto (tgt := 32) hx hb dX12_aligns_226 (by decide) ?_
                                exact ih_hloop_655 x_849 (by constructor <;> omega) f_842 hG _ _ hP hS hD hfr0 hfo_845 (by omega) ls (lv_sub hl [0, 4, 5, 6, 7, 8, 9] rfl)
                              · skip
                                rw [← Int32.toInt_inj, ti_0] at c_848
                                refine lv_aload_n hx hb dX12_aligns_172 rfl (lv_at hl 4 rfl) ?_
                                refine lv_iload hx hb dX12_aligns_173 (lv_at hl 2 rfl) ?_
                                refine lv_if_ne (tgt := 182) hx hb dX12_aligns_175 (by decide) (fun c_850 => ?_) (fun c_850 => ?_)
                                · skip
                                  rw [← Int32.toInt_inj, ti_0] at c_850
                                  exfalso
                                  omega
                                · skip
                                  rw [← Int32.toInt_inj, ti_0] at c_850
                                  refine lv_iload_n hx hb dX12_aligns_178 rfl (lv_at hl 5 rfl) ?_
                                  refine lv_goto (tgt := 185) hx hb dX12_aligns_179 (by decide) ?_
                                  refine lv_iload hx hb dX12_aligns_185 (lv_at hl 1 rfl) ?_
                                  refine lv_if_ne (tgt := 194) hx hb dX12_aligns_187 (by decide) (fun c_851 => ?_) (fun c_851 => ?_)
                                  · skip
                                    rw [← Int32.toInt_inj, ti_0] at c_851
                                    refine lv_iload_n hx hb dX12_aligns_194 rfl (lv_at hl 6 rfl) ?_
                                    refine lv_iconst (v := 1) hx hb dX12_aligns_195 (by decide) ?_
                                    refine lv_iadd hx hb dX12_aligns_196 ?_
                                    refine lv_topi (fun x_852 ex_852 => ?_)
                                    have hx_852 : x_852.toInt = p2.toInt + 1 := by rw [ex_852, ad_I (by rw [ti_1]; omega) (by rw [ti_1]; omega), ti_1]
                                    have bx_852 : (1 ≤ x_852.toInt ∧ x_852.toInt ≤ 8) := by constructor <;> omega
                                    refine lv_iload hx hb dX12_aligns_197 (lv_at hl 0 rfl) ?_
                                    refine lv_if_eq (tgt := 208) hx hb dX12_aligns_199 (by decide) (fun c_853 => ?_) (fun c_853 => ?_)
                                    · skip
                                      rw [← Int32.toInt_inj, ti_0] at c_853
                                      exfalso
                                      omega
                                    · skip
                                      rw [← Int32.toInt_inj, ti_0] at c_853
                                      refine lv_iload_n hx hb dX12_aligns_202 rfl (lv_at hl 7 rfl) ?_
                                      refine lv_iconst (v := 1) hx hb dX12_aligns_203 (by decide) ?_
                                      refine lv_isub hx hb dX12_aligns_204 ?_
                                      refine lv_topi (fun x_854 ex_854 => ?_)
                                      have hx_854 : x_854.toInt = p3.toInt - 1 := by rw [ex_854, sb_I (by rw [ti_1]; omega) (by rw [ti_1]; omega), ti_1]
                                      have bx_854 : (0 ≤ x_854.toInt ∧ x_854.toInt ≤ 0) := by constructor <;> omega
                                      refine lv_goto (tgt := 209) hx hb dX12_aligns_205 (by decide) ?_
                                      refine lv_iload hx hb dX12_aligns_209 (lv_at hl 8 rfl) ?_
                                      refine lv_iconst (v := 1) hx hb dX12_aligns_211 (by decide) ?_
                                      refine lv_iadd hx hb dX12_aligns_212 ?_
                                      refine lv_topi (fun x_855 ex_855 => ?_)
                                      have hx_855 : x_855.toInt = p4.toInt + 1 := by rw [ex_855, ad_I (by rw [ti_1]; omega) (by rw [ti_1]; omega), ti_1]
                                      have bx_855 : (1 ≤ x_855.toInt ∧ x_855.toInt ≤ 14) := by constructor <;> omega
                                      have hclc_856 : (1 ≤ x_855.toInt ∧ x_855.toInt ≤ 13) := by constructor <;> omega
                                      refine lv_iload hx hb dX12_aligns_213 (lv_at hl 9 rfl) ?_
                                      refine tk_ViP (As := [.int p1, .int x_852, .int x_854, .int x_855, .int p5]) (rest := []) (n := 5) hx hb hml hown hU hN hZ (ih_rec f_842 hG o0 mo0 ko0 p1 (by constructor <;> omega) x_852 (by constructor <;> omega) x_854 (by constructor <;> omega) x_855 (by constructor <;> omega) p5 (by intro w23 w35 e23 e35; rw [hfo_845] at e23 e35; obtain rfl := Option.some.inj e23; obtain rfl := Option.some.inj e35; omega) (by omega) (by omega)) wd_1054 wd_1055 wd_1056 wd_5 wd_1057 (by decide +kernel) ⟨(show (5 + n_) + 1 ≤ 5 + (n_ + 1) by omega), (show 8 + (10 + 11) + (129 + n_ * 29) ≤ 129 + (n_ + 1) * 29 by omega)⟩ hK hP hD hS mo0 hfo_845 12 rfl rfl rfl hl.1 rfl (Nat.le_of_ble_eq_true rfl) dX12_aligns_215 ⟨Nat.le_of_ble_eq_true rfl, Nat.le_of_ble_eq_true rfl⟩ (fun x_857 f_858 H locs hw hP hD hS => ?_)
                                      obtain ⟨hG, bx_857, hkc_859⟩ := hw
                                      have hfo_861 : f_858 o0 = .inr (12, [.ref a_2, .ref a_3, .ref a_4, .int v_5, .ref a_6, .int v_7, .int v_8, .int v_9, .int v_10, .int v_11, .int v_12, .int v_13, .int v_14, .int v_15, .int v_16, .ref a_17, .ref a_18, .ref a_19, .ref a_20, .ref a_21, .ref a_22, .ref a_23, .ref a_24, .int v_25, .int v_26, .int v_27, .int v_28, .int v_29, .ref a_30, .int v_31, .ref a_32, .ref a_33, .int v_34, .int v_35, .ref a_36, .int v_37, .ref a_38, .ref a_39, .int v_40, .int v_41, .ref a_42, .ref a_43, .ref a_44, .int v_45, .ref a_46, .ref a_47, .ref a_48, .ref a_49, .ref a_50, .ref a_51, .ref a_52, .ref a_53, .ref a_54, .int v_55, .int v_56, .ref a_57]) := by rw [hkc_859 o0 (by rw [ko0]; decide) (by rw [ko0]; decide) (by rw [ko0]; decide) (by rw [ko0]; decide) (by rw [ko0]; decide) (by rw [ko0]; decide)]; exact hfo_845
                                      have hfo_862 : f_858 a_2 = .inl (cI, 1560, .inl g_661) := by rw [hkc_859 a_2 (by rw [ka_2]; decide) (by rw [ka_2]; decide) (by rw [ka_2]; decide) (by rw [ka_2]; decide) (by rw [ka_2]; decide) (by rw [ka_2]; decide)]; exact hfo_846
                                      have hfo_863 : f_858 a_36 = .inl (cI, 16, .inl g_836) := by rw [hkc_859 a_36 (by rw [ka_36]; decide) (by rw [ka_36]; decide) (by rw [ka_36]; decide) (by rw [ka_36]; decide) (by rw [ka_36]; decide) (by rw [ka_36]; decide)]; exact hfo_847
                                      have hfr0 : ∀ b, kd b ≠ 579 → kd b ≠ 581 → kd b ≠ 583 → kd b ≠ 585 → kd b ≠ 587 → kd b ≠ 588 → f_858 b = f b := fun b q579 q581 q583 q585 q587 q588 => (hkc_859 b q579 q581 q583 q585 q587 q588).trans (hfr0 b q579 q581 q583 q585 q587 q588)
                                      refine lv_if_eq (tgt := 223) hx hb dX12_aligns_218 (by decide) (fun c_864 => ?_) (fun c_864 => ?_)
                                      · skip
                                        rw [← Int32.toInt_inj, ti_0] at c_864
                                        obtain ⟨x_865, ex_865⟩ : ∃ y : Int32, y_656 + 1 = y := ⟨_, rfl⟩
                                        have hx_865 : x_865.toInt = y_656.toInt + 1 := by rw [← ex_865, ad_I (by rw [ti_1]; omega) (by rw [ti_1]; omega), ti_1]
                                        have bx_865 : (1 ≤ x_865.toInt ∧ x_865.toInt ≤ 20) := by constructor <;> omega
                                        refine lv_iinc (v := x_865) (lv' := [(6, .int x_865), (9, .int y_670), (8, .int x_669), (7, .int x_666), (0, .ref o0), (1, .int p1), (2, .int p2), (3, .int p3), (4, .int p4), (5, .int p5)]) hx hb dX12_aligns_223 hl (k := 3) rfl ex_865 (by decide) rfl (fun ls hl => ?_)
                                        refine lv_goto (tgt := 32) hx hb dX12_aligns_226 (by decide) ?_
                                        exact ih_hloop_655 x_865 (by constructor <;> omega) f_858 hG _ _ hP hS hD hfr0 hfo_861 (by omega) ls (lv_sub hl [0, 4, 5, 6, 7, 8, 9] rfl)
                                      · skip
                                        rw [← Int32.toInt_inj, ti_0] at c_864
                                        refine lv_iconst (v := 1) hx hb dX12_aligns_221 (by decide) ?_
                                        exact W.zret (v := 1) (ty := .boolean) hx hb hr rfl (fun t ht hW => ⟨⟨1, f_858, rfl, ⟨hG, (by decide), hfr0⟩, by rw [ht]; exact hP, va_K.moved hW.alike hK, pl_in hD⟩, hS.F ht⟩) hS.2.2 dX12_aligns_222
                                  · skip
                                    rw [← Int32.toInt_inj, ti_0] at c_851
                                    exfalso
                                    omega
                            · skip
                              rw [← Int32.toInt_inj] at c_838
                              refine lv_goto (tgt := 223) hx hb dX12_aligns_148 (by decide) ?_
                              obtain ⟨x_866, ex_866⟩ : ∃ y : Int32, y_656 + 1 = y := ⟨_, rfl⟩
                              have hx_866 : x_866.toInt = y_656.toInt + 1 := by rw [← ex_866, ad_I (by rw [ti_1]; omega) (by rw [ti_1]; omega), ti_1]
                              have bx_866 : (1 ≤ x_866.toInt ∧ x_866.toInt ≤ 20) := by constructor <;> omega
                              refine lv_iinc (v := x_866) (lv' := [(6, .int x_866), (9, .int y_670), (8, .int x_669), (7, .int x_666), (0, .ref o0), (1, .int p1), (2, .int p2), (3, .int p3), (4, .int p4), (5, .int p5)]) hx hb dX12_aligns_223 hl (k := 3) rfl ex_866 (by decide) rfl (fun ls hl => ?_)
                              refine lv_goto (tgt := 32) hx hb dX12_aligns_226 (by decide) ?_
                              exact ih_hloop_655 x_866 (by constructor <;> omega) f_658 hG _ _ hP hS hD hfr0 hfo_659 (by omega) ls (lv_sub hl [0, 4, 5, 6, 7, 8, 9] rfl)
                      · skip
                        rw [← Int32.toInt_inj, ti_0] at c_806
                        refine lv_iload_n hx hb dX12_aligns_105 rfl (lv_at hl 5 rfl) ?_
                        refine lv_aload_n hx hb dX12_aligns_106 rfl (lv_at hl 4 rfl) ?_
                        refine tk_getP (D := (dC, dI)) (ci := 12) (v := .int v_25) (C := RX12) (T := TX12) (N := 56) hx hb hU inlX12 hown hK hP mo0 hfo_659 rfl 23 (by decide) (hU _ wd_867) (fun _ h9 => h9) rfl dX12_aligns_107 ?_
                        refine lv_icmp_eq (tgt := 223) hx hb dX12_aligns_110 (by decide) (fun c_867 => ?_) (fun c_867 => ?_)
                        · skip
                          rw [← Int32.toInt_inj] at c_867
                          obtain ⟨x_868, ex_868⟩ : ∃ y : Int32, y_656 + 1 = y := ⟨_, rfl⟩
                          have hx_868 : x_868.toInt = y_656.toInt + 1 := by rw [← ex_868, ad_I (by rw [ti_1]; omega) (by rw [ti_1]; omega), ti_1]
                          have bx_868 : (1 ≤ x_868.toInt ∧ x_868.toInt ≤ 20) := by constructor <;> omega
                          refine lv_iinc (v := x_868) (lv' := [(6, .int x_868), (9, .int y_670), (8, .int x_669), (7, .int x_666), (0, .ref o0), (1, .int p1), (2, .int p2), (3, .int p3), (4, .int p4), (5, .int p5)]) hx hb dX12_aligns_223 hl (k := 3) rfl ex_868 (by decide) rfl (fun ls hl => ?_)
                          refine lv_goto (tgt := 32) hx hb dX12_aligns_226 (by decide) ?_
                          exact ih_hloop_655 x_868 (by constructor <;> omega) f_658 hG _ _ hP hS hD hfr0 hfo_659 (by omega) ls (lv_sub hl [0, 4, 5, 6, 7, 8, 9] rfl)
                        · skip
                          rw [← Int32.toInt_inj] at c_867
                          have hclc_869 : (0 ≤ p1.toInt ∧ p1.toInt ≤ 11) := by constructor <;> omega
                          refine lv_aload_n hx hb dX12_aligns_113 rfl (lv_at hl 4 rfl) ?_
                          refine tk_getP (D := (dC, dI)) (ci := 12) (v := .ref a_23) (C := RX12) (T := TX12) (N := 56) hx hb hU inlX12 hown hK hP mo0 hfo_659 rfl 21 (by decide) (hU _ wd_181) (fun _ h9 => h9) rfl dX12_aligns_114 ?_
                          refine lv_iload_n hx hb dX12_aligns_117 rfl (lv_at hl 5 rfl) ?_
                          obtain ⟨g_871, hfo_870, hbg_871⟩ := un_589 (hG _ ma_23) ka_23
                          refine tk_ildP hx hb hK hP 0 ma_23 hfo_870 rfl (vp_in_iff.mpr (by constructor <;> omega)) dX12_aligns_118 ?_
                          refine lv_topi (fun x_872 ex_872 => ?_)
                          have bx_872 : (0 ≤ x_872.toInt ∧ x_872.toInt ≤ 8) := by rw [ex_872]; exact hbg_871 _
                          refine lv_iload hx hb dX12_aligns_119 (lv_at hl 2 rfl) ?_
                          refine lv_icmp_ne (tgt := 223) hx hb dX12_aligns_121 (by decide) (fun c_873 => ?_) (fun c_873 => ?_)
                          · skip
                            rw [← Int32.toInt_inj] at c_873
                            obtain ⟨x_874, ex_874⟩ : ∃ y : Int32, y_656 + 1 = y := ⟨_, rfl⟩
                            have hx_874 : x_874.toInt = y_656.toInt + 1 := by rw [← ex_874, ad_I (by rw [ti_1]; omega) (by rw [ti_1]; omega), ti_1]
                            have bx_874 : (1 ≤ x_874.toInt ∧ x_874.toInt ≤ 20) := by constructor <;> omega
                            refine lv_iinc (v := x_874) (lv' := [(6, .int x_874), (9, .int y_670), (8, .int x_669), (7, .int x_666), (0, .ref o0), (1, .int p1), (2, .int p2), (3, .int p3), (4, .int p4), (5, .int p5)]) hx hb dX12_aligns_223 hl (k := 3) rfl ex_874 (by decide) rfl (fun ls hl => ?_)
                            refine lv_goto (tgt := 32) hx hb dX12_aligns_226 (by decide) ?_
                            exact ih_hloop_655 x_874 (by constructor <;> omega) f_658 hG _ _ hP hS hD hfr0 hfo_659 (by omega) ls (lv_sub hl [0, 4, 5, 6, 7, 8, 9] rfl)
                          · skip
                            rw [← Int32.toInt_inj] at c_873
                            refine lv_iload hx hb dX12_aligns_124 (lv_at hl 1 rfl) ?_
                            refine lv_if_eq (tgt := 151) hx hb dX12_aligns_126 (by decide) (fun c_875 => ?_) (fun c_875 => ?_)
                            · skip
                              rw [← Int32.toInt_inj, ti_0] at c_875
                              refine lv_aload_n hx hb dX12_aligns_151 rfl (lv_at hl 4 rfl) ?_
                              refine lv_iload hx hb dX12_aligns_152 (lv_at hl 8 rfl) ?_
                              refine lv_aload_n hx hb dX12_aligns_154 rfl (lv_at hl 4 rfl) ?_
                              refine tk_getP (D := (dC, dI)) (ci := 12) (v := .ref a_2) (C := RX12) (T := TX12) (N := 56) hx hb hU inlX12 hown hK hP mo0 hfo_659 rfl 0 (by decide) (hU _ wd_169) (fun _ h9 => h9) rfl dX12_aligns_155 ?_
                              refine lv_bipush (v := 20) hx hb dX12_aligns_158 (by decide) ?_
                              refine lv_iload hx hb dX12_aligns_160 (lv_at hl 3 rfl) ?_
                              refine lv_iadd hx hb dX12_aligns_162 ?_
                              refine lv_topi (fun x_876 ex_876 => ?_)
                              have hx_876 : x_876.toInt = 20 + y_656.toInt := by rw [ex_876, ad_I (by rw [ti_20]; omega) (by rw [ti_20]; omega), ti_20]
                              have bx_876 : (20 ≤ x_876.toInt ∧ x_876.toInt ≤ 39) := by constructor <;> omega
                              refine tk_ildP hx hb hK hP 0 ma_2 hfo_660 rfl (vp_in_iff.mpr (by constructor <;> omega)) dX12_aligns_163 ?_
                              refine lv_topi (fun x_877 ex_877 => ?_)
                              have bx_877 : (0 ≤ x_877.toInt ∧ x_877.toInt ≤ 80) := by have hc9 := cl_I (i := x_876) (by omega); rw [ex_877]; exact hbg_661.2.2.2.2.2.1 _ (by omega) (by omega) (by omega)
                              refine lv_iload hx hb dX12_aligns_164 (lv_at hl 9 rfl) ?_
                              refine tk_ViP (As := [.int p4, .int x_877, .int p5]) (rest := []) (n := 3) hx hb hml hown hU hN hZ (s_X12_reads_k12 l (dC, dI) cI cL cZ cR cG cH Z kd L f_658 hG o0 mo0 ko0 p4 (by constructor <;> omega) x_877 p5) wd_950 wd_951 wd_952 wd_5 wd_953 (by decide +kernel) ⟨(show 4 + 1 ≤ 5 + (n_ + 1) by omega), (show 8 + (5 + 11) + 105 ≤ 129 + (n_ + 1) * 29 by omega)⟩ hK hP hD hS mo0 hfo_659 12 rfl rfl rfl hl.1 rfl (Nat.le_of_ble_eq_true rfl) dX12_aligns_166 ⟨Nat.le_of_ble_eq_true rfl, Nat.le_of_ble_eq_true rfl⟩ (fun x_878 f_879 H locs hw hP hD hS => ?_)
                              obtain ⟨hG, bx_878, hkc_880⟩ := hw
                              have hfo_882 : f_879 o0 = .inr (12, [.ref a_2, .ref a_3, .ref a_4, .int v_5, .ref a_6, .int v_7, .int v_8, .int v_9, .int v_10, .int v_11, .int v_12, .int v_13, .int v_14, .int v_15, .int v_16, .ref a_17, .ref a_18, .ref a_19, .ref a_20, .ref a_21, .ref a_22, .ref a_23, .ref a_24, .int v_25, .int v_26, .int v_27, .int v_28, .int v_29, .ref a_30, .int v_31, .ref a_32, .ref a_33, .int v_34, .int v_35, .ref a_36, .int v_37, .ref a_38, .ref a_39, .int v_40, .int v_41, .ref a_42, .ref a_43, .ref a_44, .int v_45, .ref a_46, .ref a_47, .ref a_48, .ref a_49, .ref a_50, .ref a_51, .ref a_52, .ref a_53, .ref a_54, .int v_55, .int v_56, .ref a_57]) := by rw [hkc_880 o0 (by rw [ko0]; decide) (by rw [ko0]; decide) (by rw [ko0]; decide) (by rw [ko0]; decide) (by rw [ko0]; decide) (by rw [ko0]; decide)]; exact hfo_659
                              have hfo_883 : f_879 a_2 = .inl (cI, 1560, .inl g_661) := by rw [hkc_880 a_2 (by rw [ka_2]; decide) (by rw [ka_2]; decide) (by rw [ka_2]; decide) (by rw [ka_2]; decide) (by rw [ka_2]; decide) (by rw [ka_2]; decide)]; exact hfo_660
                              have hfo_884 : f_879 a_23 = .inl (cI, 16, .inl g_871) := by rw [hkc_880 a_23 (by rw [ka_23]; decide) (by rw [ka_23]; decide) (by rw [ka_23]; decide) (by rw [ka_23]; decide) (by rw [ka_23]; decide) (by rw [ka_23]; decide)]; exact hfo_870
                              have hfr0 : ∀ b, kd b ≠ 579 → kd b ≠ 581 → kd b ≠ 583 → kd b ≠ 585 → kd b ≠ 587 → kd b ≠ 588 → f_879 b = f b := fun b q579 q581 q583 q585 q587 q588 => (hkc_880 b q579 q581 q583 q585 q587 q588).trans (hfr0 b q579 q581 q583 q585 q587 q588)
                              refine lv_if_eq (tgt := 223) hx hb dX12_aligns_169 (by decide) (fun c_885 => ?_) (fun c_885 => ?_)
                              · skip
                                rw [← Int32.toInt_inj, ti_0] at c_885
                                obtain ⟨x_886, ex_886⟩ : ∃ y : Int32, y_656 + 1 = y := ⟨_, rfl⟩
                                have hx_886 : x_886.toInt = y_656.toInt + 1 := by rw [← ex_886, ad_I (by rw [ti_1]; omega) (by rw [ti_1]; omega), ti_1]
                                have bx_886 : (1 ≤ x_886.toInt ∧ x_886.toInt ≤ 20) := by constructor <;> omega
                                refine lv_iinc (v := x_886) (lv' := [(6, .int x_886), (9, .int y_670), (8, .int x_669), (7, .int x_666), (0, .ref o0), (1, .int p1), (2, .int p2), (3, .int p3), (4, .int p4), (5, .int p5)]) hx hb dX12_aligns_223 hl (k := 3) rfl ex_886 (by decide) rfl (fun ls hl => ?_)
                                refine lv_goto (tgt := 32) hx hb dX12_aligns_226 (by decide) ?_
                                exact ih_hloop_655 x_886 (by constructor <;> omega) f_879 hG _ _ hP hS hD hfr0 hfo_882 (by omega) ls (lv_sub hl [0, 4, 5, 6, 7, 8, 9] rfl)
                              · skip
                                rw [← Int32.toInt_inj, ti_0] at c_885
                                refine lv_aload_n hx hb dX12_aligns_172 rfl (lv_at hl 4 rfl) ?_
                                refine lv_iload hx hb dX12_aligns_173 (lv_at hl 2 rfl) ?_
                                refine lv_if_ne (tgt := 182) hx hb dX12_aligns_175 (by decide) (fun c_887 => ?_) (fun c_887 => ?_)
                                · skip
                                  rw [← Int32.toInt_inj, ti_0] at c_887
                                  refine lv_iload_n hx hb dX12_aligns_182 rfl (lv_at hl 5 rfl) ?_
                                  refine lv_iconst (v := 1) hx hb dX12_aligns_183 (by decide) ?_
                                  refine lv_iadd hx hb dX12_aligns_184 ?_
                                  refine lv_topi (fun x_888 ex_888 => ?_)
                                  have hx_888 : x_888.toInt = p1.toInt + 1 := by rw [ex_888, ad_I (by rw [ti_1]; omega) (by rw [ti_1]; omega), ti_1]
                                  have bx_888 : (1 ≤ x_888.toInt ∧ x_888.toInt ≤ 12) := by constructor <;> omega
                                  refine lv_iload hx hb dX12_aligns_185 (lv_at hl 1 rfl) ?_
                                  refine lv_if_ne (tgt := 194) hx hb dX12_aligns_187 (by decide) (fun c_889 => ?_) (fun c_889 => ?_)
                                  · skip
                                    rw [← Int32.toInt_inj, ti_0] at c_889
                                    exfalso
                                    omega
                                  · skip
                                    rw [← Int32.toInt_inj, ti_0] at c_889
                                    refine lv_iload_n hx hb dX12_aligns_190 rfl (lv_at hl 6 rfl) ?_
                                    refine lv_goto (tgt := 197) hx hb dX12_aligns_191 (by decide) ?_
                                    refine lv_iload hx hb dX12_aligns_197 (lv_at hl 0 rfl) ?_
                                    refine lv_if_eq (tgt := 208) hx hb dX12_aligns_199 (by decide) (fun c_890 => ?_) (fun c_890 => ?_)
                                    · skip
                                      rw [← Int32.toInt_inj, ti_0] at c_890
                                      exfalso
                                      omega
                                    · skip
                                      rw [← Int32.toInt_inj, ti_0] at c_890
                                      refine lv_iload_n hx hb dX12_aligns_202 rfl (lv_at hl 7 rfl) ?_
                                      refine lv_iconst (v := 1) hx hb dX12_aligns_203 (by decide) ?_
                                      refine lv_isub hx hb dX12_aligns_204 ?_
                                      refine lv_topi (fun x_891 ex_891 => ?_)
                                      have hx_891 : x_891.toInt = p3.toInt - 1 := by rw [ex_891, sb_I (by rw [ti_1]; omega) (by rw [ti_1]; omega), ti_1]
                                      have bx_891 : (0 ≤ x_891.toInt ∧ x_891.toInt ≤ 0) := by constructor <;> omega
                                      refine lv_goto (tgt := 209) hx hb dX12_aligns_205 (by decide) ?_
                                      refine lv_iload hx hb dX12_aligns_209 (lv_at hl 8 rfl) ?_
                                      refine lv_iconst (v := 1) hx hb dX12_aligns_211 (by decide) ?_
                                      refine lv_iadd hx hb dX12_aligns_212 ?_
                                      refine lv_topi (fun x_892 ex_892 => ?_)
                                      have hx_892 : x_892.toInt = p4.toInt + 1 := by rw [ex_892, ad_I (by rw [ti_1]; omega) (by rw [ti_1]; omega), ti_1]
                                      have bx_892 : (1 ≤ x_892.toInt ∧ x_892.toInt ≤ 14) := by constructor <;> omega
                                      have hclc_893 : (1 ≤ x_892.toInt ∧ x_892.toInt ≤ 13) := by constructor <;> omega
                                      refine lv_iload hx hb dX12_aligns_213 (lv_at hl 9 rfl) ?_
                                      refine tk_ViP (As := [.int x_888, .int p2, .int x_891, .int x_892, .int p5]) (rest := []) (n := 5) hx hb hml hown hU hN hZ (ih_rec f_879 hG o0 mo0 ko0 x_888 (by constructor <;> omega) p2 (by constructor <;> omega) x_891 (by constructor <;> omega) x_892 (by constructor <;> omega) p5 (by intro w23 w35 e23 e35; rw [hfo_882] at e23 e35; obtain rfl := Option.some.inj e23; obtain rfl := Option.some.inj e35; omega) (by omega) (by omega)) wd_1054 wd_1055 wd_1056 wd_5 wd_1057 (by decide +kernel) ⟨(show (5 + n_) + 1 ≤ 5 + (n_ + 1) by omega), (show 8 + (10 + 11) + (129 + n_ * 29) ≤ 129 + (n_ + 1) * 29 by omega)⟩ hK hP hD hS mo0 hfo_882 12 rfl rfl rfl hl.1 rfl (Nat.le_of_ble_eq_true rfl) dX12_aligns_215 ⟨Nat.le_of_ble_eq_true rfl, Nat.le_of_ble_eq_true rfl⟩ (fun x_894 f_895 H locs hw hP hD hS => ?_)
                                      obtain ⟨hG, bx_894, hkc_896⟩ := hw
                                      have hfo_898 : f_895 o0 = .inr (12, [.ref a_2, .ref a_3, .ref a_4, .int v_5, .ref a_6, .int v_7, .int v_8, .int v_9, .int v_10, .int v_11, .int v_12, .int v_13, .int v_14, .int v_15, .int v_16, .ref a_17, .ref a_18, .ref a_19, .ref a_20, .ref a_21, .ref a_22, .ref a_23, .ref a_24, .int v_25, .int v_26, .int v_27, .int v_28, .int v_29, .ref a_30, .int v_31, .ref a_32, .ref a_33, .int v_34, .int v_35, .ref a_36, .int v_37, .ref a_38, .ref a_39, .int v_40, .int v_41, .ref a_42, .ref a_43, .ref a_44, .int v_45, .ref a_46, .ref a_47, .ref a_48, .ref a_49, .ref a_50, .ref a_51, .ref a_52, .ref a_53, .ref a_54, .int v_55, .int v_56, .ref a_57]) := by rw [hkc_896 o0 (by rw [ko0]; decide) (by rw [ko0]; decide) (by rw [ko0]; decide) (by rw [ko0]; decide) (by rw [ko0]; decide) (by rw [ko0]; decide)]; exact hfo_882
                                      have hfo_899 : f_895 a_2 = .inl (cI, 1560, .inl g_661) := by rw [hkc_896 a_2 (by rw [ka_2]; decide) (by rw [ka_2]; decide) (by rw [ka_2]; decide) (by rw [ka_2]; decide) (by rw [ka_2]; decide) (by rw [ka_2]; decide)]; exact hfo_883
                                      have hfo_900 : f_895 a_23 = .inl (cI, 16, .inl g_871) := by rw [hkc_896 a_23 (by rw [ka_23]; decide) (by rw [ka_23]; decide) (by rw [ka_23]; decide) (by rw [ka_23]; decide) (by rw [ka_23]; decide) (by rw [ka_23]; decide)]; exact hfo_884
                                      have hfr0 : ∀ b, kd b ≠ 579 → kd b ≠ 581 → kd b ≠ 583 → kd b ≠ 585 → kd b ≠ 587 → kd b ≠ 588 → f_895 b = f b := fun b q579 q581 q583 q585 q587 q588 => (hkc_896 b q579 q581 q583 q585 q587 q588).trans (hfr0 b q579 q581 q583 q585 q587 q588)
                                      refine lv_if_eq (tgt := 223) hx hb dX12_aligns_218 (by decide) (fun c_901 => ?_) (fun c_901 => ?_)
                                      · skip
                                        rw [← Int32.toInt_inj, ti_0] at c_901
                                        obtain ⟨x_902, ex_902⟩ : ∃ y : Int32, y_656 + 1 = y := ⟨_, rfl⟩
                                        have hx_902 : x_902.toInt = y_656.toInt + 1 := by rw [← ex_902, ad_I (by rw [ti_1]; omega) (by rw [ti_1]; omega), ti_1]
                                        have bx_902 : (1 ≤ x_902.toInt ∧ x_902.toInt ≤ 20) := by constructor <;> omega
                                        refine lv_iinc (v := x_902) (lv' := [(6, .int x_902), (9, .int y_670), (8, .int x_669), (7, .int x_666), (0, .ref o0), (1, .int p1), (2, .int p2), (3, .int p3), (4, .int p4), (5, .int p5)]) hx hb dX12_aligns_223 hl (k := 3) rfl ex_902 (by decide) rfl (fun ls hl => ?_)
                                        refine lv_goto (tgt := 32) hx hb dX12_aligns_226 (by decide) ?_
                                        exact ih_hloop_655 x_902 (by constructor <;> omega) f_895 hG _ _ hP hS hD hfr0 hfo_898 (by omega) ls (lv_sub hl [0, 4, 5, 6, 7, 8, 9] rfl)
                                      · skip
                                        rw [← Int32.toInt_inj, ti_0] at c_901
                                        refine lv_iconst (v := 1) hx hb dX12_aligns_221 (by decide) ?_
                                        exact W.zret (v := 1) (ty := .boolean) hx hb hr rfl (fun t ht hW => ⟨⟨1, f_895, rfl, ⟨hG, (by decide), hfr0⟩, by rw [ht]; exact hP, va_K.moved hW.alike hK, pl_in hD⟩, hS.F ht⟩) hS.2.2 dX12_aligns_222
                                · skip
                                  rw [← Int32.toInt_inj, ti_0] at c_887
                                  exfalso
                                  omega
                            · skip
                              rw [← Int32.toInt_inj, ti_0] at c_875
                              refine lv_iload_n hx hb dX12_aligns_129 rfl (lv_at hl 6 rfl) ?_
                              refine lv_aload_n hx hb dX12_aligns_130 rfl (lv_at hl 4 rfl) ?_
                              refine tk_getP (D := (dC, dI)) (ci := 12) (v := .int v_37) (C := RX12) (T := TX12) (N := 56) hx hb hU inlX12 hown hK hP mo0 hfo_659 rfl 35 (by decide) (hU _ wd_1049) (fun _ h9 => h9) rfl dX12_aligns_131 ?_
                              refine lv_icmp_eq (tgt := 223) hx hb dX12_aligns_134 (by decide) (fun c_903 => ?_) (fun c_903 => ?_)
                              · skip
                                rw [← Int32.toInt_inj] at c_903
                                obtain ⟨x_904, ex_904⟩ : ∃ y : Int32, y_656 + 1 = y := ⟨_, rfl⟩
                                have hx_904 : x_904.toInt = y_656.toInt + 1 := by rw [← ex_904, ad_I (by rw [ti_1]; omega) (by rw [ti_1]; omega), ti_1]
                                have bx_904 : (1 ≤ x_904.toInt ∧ x_904.toInt ≤ 20) := by constructor <;> omega
                                refine lv_iinc (v := x_904) (lv' := [(6, .int x_904), (9, .int y_670), (8, .int x_669), (7, .int x_666), (0, .ref o0), (1, .int p1), (2, .int p2), (3, .int p3), (4, .int p4), (5, .int p5)]) hx hb dX12_aligns_223 hl (k := 3) rfl ex_904 (by decide) rfl (fun ls hl => ?_)
                                refine lv_goto (tgt := 32) hx hb dX12_aligns_226 (by decide) ?_
                                exact ih_hloop_655 x_904 (by constructor <;> omega) f_658 hG _ _ hP hS hD hfr0 hfo_659 (by omega) ls (lv_sub hl [0, 4, 5, 6, 7, 8, 9] rfl)
                              · skip
                                rw [← Int32.toInt_inj] at c_903
                                have hclc_905 : (0 ≤ p2.toInt ∧ p2.toInt ≤ 7) := by constructor <;> omega
                                refine lv_aload_n hx hb dX12_aligns_137 rfl (lv_at hl 4 rfl) ?_
                                refine tk_getP (D := (dC, dI)) (ci := 12) (v := .ref a_36) (C := RX12) (T := TX12) (N := 56) hx hb hU inlX12 hown hK hP mo0 hfo_659 rfl 34 (by decide) (hU _ wd_186) (fun _ h9 => h9) rfl dX12_aligns_138 ?_
                                refine lv_iload_n hx hb dX12_aligns_141 rfl (lv_at hl 6 rfl) ?_
                                obtain ⟨g_907, hfo_906, hbg_907⟩ := un_594 (hG _ ma_36) ka_36
                                refine tk_ildP hx hb hK hP 0 ma_36 hfo_906 rfl (vp_in_iff.mpr (by constructor <;> omega)) dX12_aligns_142 ?_
                                refine lv_topi (fun x_908 ex_908 => ?_)
                                have bx_908 : (0 ≤ x_908.toInt ∧ x_908.toInt ≤ 8) := by rw [ex_908]; exact hbg_907 _
                                refine lv_iload hx hb dX12_aligns_143 (lv_at hl 1 rfl) ?_
                                refine lv_icmp_eq (tgt := 151) hx hb dX12_aligns_145 (by decide) (fun c_909 => ?_) (fun c_909 => ?_)
                                · skip
                                  rw [← Int32.toInt_inj] at c_909
                                  refine lv_aload_n hx hb dX12_aligns_151 rfl (lv_at hl 4 rfl) ?_
                                  refine lv_iload hx hb dX12_aligns_152 (lv_at hl 8 rfl) ?_
                                  refine lv_aload_n hx hb dX12_aligns_154 rfl (lv_at hl 4 rfl) ?_
                                  refine tk_getP (D := (dC, dI)) (ci := 12) (v := .ref a_2) (C := RX12) (T := TX12) (N := 56) hx hb hU inlX12 hown hK hP mo0 hfo_659 rfl 0 (by decide) (hU _ wd_169) (fun _ h9 => h9) rfl dX12_aligns_155 ?_
                                  refine lv_bipush (v := 20) hx hb dX12_aligns_158 (by decide) ?_
                                  refine lv_iload hx hb dX12_aligns_160 (lv_at hl 3 rfl) ?_
                                  refine lv_iadd hx hb dX12_aligns_162 ?_
                                  refine lv_topi (fun x_910 ex_910 => ?_)
                                  have hx_910 : x_910.toInt = 20 + y_656.toInt := by rw [ex_910, ad_I (by rw [ti_20]; omega) (by rw [ti_20]; omega), ti_20]
                                  have bx_910 : (20 ≤ x_910.toInt ∧ x_910.toInt ≤ 39) := by constructor <;> omega
                                  refine tk_ildP hx hb hK hP 0 ma_2 hfo_660 rfl (vp_in_iff.mpr (by constructor <;> omega)) dX12_aligns_163 ?_
                                  refine lv_topi (fun x_911 ex_911 => ?_)
                                  have bx_911 : (0 ≤ x_911.toInt ∧ x_911.toInt ≤ 80) := by have hc9 := cl_I (i := x_910) (by omega); rw [ex_911]; exact hbg_661.2.2.2.2.2.1 _ (by omega) (by omega) (by omega)
                                  refine lv_iload hx hb dX12_aligns_164 (lv_at hl 9 rfl) ?_
                                  refine tk_ViP (As := [.int p4, .int x_911, .int p5]) (rest := []) (n := 3) hx hb hml hown hU hN hZ (s_X12_reads_k12 l (dC, dI) cI cL cZ cR cG cH Z kd L f_658 hG o0 mo0 ko0 p4 (by constructor <;> omega) x_911 p5) wd_950 wd_951 wd_952 wd_5 wd_953 (by decide +kernel) ⟨(show 4 + 1 ≤ 5 + (n_ + 1) by omega), (show 8 + (5 + 11) + 105 ≤ 129 + (n_ + 1) * 29 by omega)⟩ hK hP hD hS mo0 hfo_659 12 rfl rfl rfl hl.1 rfl (Nat.le_of_ble_eq_true rfl) dX12_aligns_166 ⟨Nat.le_of_ble_eq_true rfl, Nat.le_of_ble_eq_true rfl⟩ (fun x_912 f_913 H locs hw hP hD hS => ?_)
                                  obtain ⟨hG, bx_912, hkc_914⟩ := hw
                                  have hfo_916 : f_913 o0 = .inr (12, [.ref a_2, .ref a_3, .ref a_4, .int v_5, .ref a_6, .int v_7, .int v_8, .int v_9, .int v_10, .int v_11, .int v_12, .int v_13, .int v_14, .int v_15, .int v_16, .ref a_17, .ref a_18, .ref a_19, .ref a_20, .ref a_21, .ref a_22, .ref a_23, .ref a_24, .int v_25, .int v_26, .int v_27, .int v_28, .int v_29, .ref a_30, .int v_31, .ref a_32, .ref a_33, .int v_34, .int v_35, .ref a_36, .int v_37, .ref a_38, .ref a_39, .int v_40, .int v_41, .ref a_42, .ref a_43, .ref a_44, .int v_45, .ref a_46, .ref a_47, .ref a_48, .ref a_49, .ref a_50, .ref a_51, .ref a_52, .ref a_53, .ref a_54, .int v_55, .int v_56, .ref a_57]) := by rw [hkc_914 o0 (by rw [ko0]; decide) (by rw [ko0]; decide) (by rw [ko0]; decide) (by rw [ko0]; decide) (by rw [ko0]; decide) (by rw [ko0]; decide)]; exact hfo_659
                                  have hfo_917 : f_913 a_2 = .inl (cI, 1560, .inl g_661) := by rw [hkc_914 a_2 (by rw [ka_2]; decide) (by rw [ka_2]; decide) (by rw [ka_2]; decide) (by rw [ka_2]; decide) (by rw [ka_2]; decide) (by rw [ka_2]; decide)]; exact hfo_660
                                  have hfo_918 : f_913 a_23 = .inl (cI, 16, .inl g_871) := by rw [hkc_914 a_23 (by rw [ka_23]; decide) (by rw [ka_23]; decide) (by rw [ka_23]; decide) (by rw [ka_23]; decide) (by rw [ka_23]; decide) (by rw [ka_23]; decide)]; exact hfo_870
                                  have hfo_919 : f_913 a_36 = .inl (cI, 16, .inl g_907) := by rw [hkc_914 a_36 (by rw [ka_36]; decide) (by rw [ka_36]; decide) (by rw [ka_36]; decide) (by rw [ka_36]; decide) (by rw [ka_36]; decide) (by rw [ka_36]; decide)]; exact hfo_906
                                  have hfr0 : ∀ b, kd b ≠ 579 → kd b ≠ 581 → kd b ≠ 583 → kd b ≠ 585 → kd b ≠ 587 → kd b ≠ 588 → f_913 b = f b := fun b q579 q581 q583 q585 q587 q588 => (hkc_914 b q579 q581 q583 q585 q587 q588).trans (hfr0 b q579 q581 q583 q585 q587 q588)
                                  refine lv_if_eq (tgt := 223) hx hb dX12_aligns_169 (by decide) (fun c_920 => ?_) (fun c_920 => ?_)
                                  · skip
                                    rw [← Int32.toInt_inj, ti_0] at c_920
                                    obtain ⟨x_921, ex_921⟩ : ∃ y : Int32, y_656 + 1 = y := ⟨_, rfl⟩
                                    have hx_921 : x_921.toInt = y_656.toInt + 1 := by rw [← ex_921, ad_I (by rw [ti_1]; omega) (by rw [ti_1]; omega), ti_1]
                                    have bx_921 : (1 ≤ x_921.toInt ∧ x_921.toInt ≤ 20) := by constructor <;> omega
                                    refine lv_iinc (v := x_921) (lv' := [(6, .int x_921), (9, .int y_670), (8, .int x_669), (7, .int x_666), (0, .ref o0), (1, .int p1), (2, .int p2), (3, .int p3), (4, .int p4), (5, .int p5)]) hx hb dX12_aligns_223 hl (k := 3) rfl ex_921 (by decide) rfl (fun ls hl => ?_)
                                    refine lv_goto (tgt := 32) hx hb dX12_aligns_226 (by decide) ?_
                                    exact ih_hloop_655 x_921 (by constructor <;> omega) f_913 hG _ _ hP hS hD hfr0 hfo_916 (by omega) ls (lv_sub hl [0, 4, 5, 6, 7, 8, 9] rfl)
                                  · skip
                                    rw [← Int32.toInt_inj, ti_0] at c_920
                                    refine lv_aload_n hx hb dX12_aligns_172 rfl (lv_at hl 4 rfl) ?_
                                    refine lv_iload hx hb dX12_aligns_173 (lv_at hl 2 rfl) ?_
                                    refine lv_if_ne (tgt := 182) hx hb dX12_aligns_175 (by decide) (fun c_922 => ?_) (fun c_922 => ?_)
                                    · skip
                                      rw [← Int32.toInt_inj, ti_0] at c_922
                                      refine lv_iload_n hx hb dX12_aligns_182 rfl (lv_at hl 5 rfl) ?_
                                      refine lv_iconst (v := 1) hx hb dX12_aligns_183 (by decide) ?_
                                      refine lv_iadd hx hb dX12_aligns_184 ?_
                                      refine lv_topi (fun x_923 ex_923 => ?_)
                                      have hx_923 : x_923.toInt = p1.toInt + 1 := by rw [ex_923, ad_I (by rw [ti_1]; omega) (by rw [ti_1]; omega), ti_1]
                                      have bx_923 : (1 ≤ x_923.toInt ∧ x_923.toInt ≤ 12) := by constructor <;> omega
                                      refine lv_iload hx hb dX12_aligns_185 (lv_at hl 1 rfl) ?_
                                      refine lv_if_ne (tgt := 194) hx hb dX12_aligns_187 (by decide) (fun c_924 => ?_) (fun c_924 => ?_)
                                      · skip
                                        rw [← Int32.toInt_inj, ti_0] at c_924
                                        refine lv_iload_n hx hb dX12_aligns_194 rfl (lv_at hl 6 rfl) ?_
                                        refine lv_iconst (v := 1) hx hb dX12_aligns_195 (by decide) ?_
                                        refine lv_iadd hx hb dX12_aligns_196 ?_
                                        refine lv_topi (fun x_925 ex_925 => ?_)
                                        have hx_925 : x_925.toInt = p2.toInt + 1 := by rw [ex_925, ad_I (by rw [ti_1]; omega) (by rw [ti_1]; omega), ti_1]
                                        have bx_925 : (1 ≤ x_925.toInt ∧ x_925.toInt ≤ 8) := by constructor <;> omega
                                        refine lv_iload hx hb dX12_aligns_197 (lv_at hl 0 rfl) ?_
                                        refine lv_if_eq (tgt := 208) hx hb dX12_aligns_199 (by decide) (fun c_926 => ?_) (fun c_926 => ?_)
                                        · skip
                                          rw [← Int32.toInt_inj, ti_0] at c_926
                                          exfalso
                                          omega
                                        · skip
                                          rw [← Int32.toInt_inj, ti_0] at c_926
                                          refine lv_iload_n hx hb dX12_aligns_202 rfl (lv_at hl 7 rfl) ?_
                                          refine lv_iconst (v := 1) hx hb dX12_aligns_203 (by decide) ?_
                                          refine lv_isub hx hb dX12_aligns_204 ?_
                                          refine lv_topi (fun x_927 ex_927 => ?_)
                                          have hx_927 : x_927.toInt = p3.toInt - 1 := by rw [ex_927, sb_I (by rw [ti_1]; omega) (by rw [ti_1]; omega), ti_1]
                                          have bx_927 : (0 ≤ x_927.toInt ∧ x_927.toInt ≤ 0) := by constructor <;> omega
                                          refine lv_goto (tgt := 209) hx hb dX12_aligns_205 (by decide) ?_
                                          refine lv_iload hx hb dX12_aligns_209 (lv_at hl 8 rfl) ?_
                                          refine lv_iconst (v := 1) hx hb dX12_aligns_211 (by decide) ?_
                                          refine lv_iadd hx hb dX12_aligns_212 ?_
                                          refine lv_topi (fun x_928 ex_928 => ?_)
                                          have hx_928 : x_928.toInt = p4.toInt + 1 := by rw [ex_928, ad_I (by rw [ti_1]; omega) (by rw [ti_1]; omega), ti_1]
                                          have bx_928 : (1 ≤ x_928.toInt ∧ x_928.toInt ≤ 14) := by constructor <;> omega
                                          have hclc_929 : (1 ≤ x_928.toInt ∧ x_928.toInt ≤ 13) := by constructor <;> omega
                                          refine lv_iload hx hb dX12_aligns_213 (lv_at hl 9 rfl) ?_
                                          refine tk_ViP (As := [.int x_923, .int x_925, .int x_927, .int x_928, .int p5]) (rest := []) (n := 5) hx hb hml hown hU hN hZ (ih_rec f_913 hG o0 mo0 ko0 x_923 (by constructor <;> omega) x_925 (by constructor <;> omega) x_927 (by constructor <;> omega) x_928 (by constructor <;> omega) p5 (by intro w23 w35 e23 e35; rw [hfo_916] at e23 e35; obtain rfl := Option.some.inj e23; obtain rfl := Option.some.inj e35; omega) (by omega) (by omega)) wd_1054 wd_1055 wd_1056 wd_5 wd_1057 (by decide +kernel) ⟨(show (5 + n_) + 1 ≤ 5 + (n_ + 1) by omega), (show 8 + (10 + 11) + (129 + n_ * 29) ≤ 129 + (n_ + 1) * 29 by omega)⟩ hK hP hD hS mo0 hfo_916 12 rfl rfl rfl hl.1 rfl (Nat.le_of_ble_eq_true rfl) dX12_aligns_215 ⟨Nat.le_of_ble_eq_true rfl, Nat.le_of_ble_eq_true rfl⟩ (fun x_930 f_931 H locs hw hP hD hS => ?_)
                                          obtain ⟨hG, bx_930, hkc_932⟩ := hw
                                          have hfo_934 : f_931 o0 = .inr (12, [.ref a_2, .ref a_3, .ref a_4, .int v_5, .ref a_6, .int v_7, .int v_8, .int v_9, .int v_10, .int v_11, .int v_12, .int v_13, .int v_14, .int v_15, .int v_16, .ref a_17, .ref a_18, .ref a_19, .ref a_20, .ref a_21, .ref a_22, .ref a_23, .ref a_24, .int v_25, .int v_26, .int v_27, .int v_28, .int v_29, .ref a_30, .int v_31, .ref a_32, .ref a_33, .int v_34, .int v_35, .ref a_36, .int v_37, .ref a_38, .ref a_39, .int v_40, .int v_41, .ref a_42, .ref a_43, .ref a_44, .int v_45, .ref a_46, .ref a_47, .ref a_48, .ref a_49, .ref a_50, .ref a_51, .ref a_52, .ref a_53, .ref a_54, .int v_55, .int v_56, .ref a_57]) := by rw [hkc_932 o0 (by rw [ko0]; decide) (by rw [ko0]; decide) (by rw [ko0]; decide) (by rw [ko0]; decide) (by rw [ko0]; decide) (by rw [ko0]; decide)]; exact hfo_916
                                          have hfo_935 : f_931 a_2 = .inl (cI, 1560, .inl g_661) := by rw [hkc_932 a_2 (by rw [ka_2]; decide) (by rw [ka_2]; decide) (by rw [ka_2]; decide) (by rw [ka_2]; decide) (by rw [ka_2]; decide) (by rw [ka_2]; decide)]; exact hfo_917
                                          have hfo_936 : f_931 a_23 = .inl (cI, 16, .inl g_871) := by rw [hkc_932 a_23 (by rw [ka_23]; decide) (by rw [ka_23]; decide) (by rw [ka_23]; decide) (by rw [ka_23]; decide) (by rw [ka_23]; decide) (by rw [ka_23]; decide)]; exact hfo_918
                                          have hfo_937 : f_931 a_36 = .inl (cI, 16, .inl g_907) := by rw [hkc_932 a_36 (by rw [ka_36]; decide) (by rw [ka_36]; decide) (by rw [ka_36]; decide) (by rw [ka_36]; decide) (by rw [ka_36]; decide) (by rw [ka_36]; decide)]; exact hfo_919
                                          have hfr0 : ∀ b, kd b ≠ 579 → kd b ≠ 581 → kd b ≠ 583 → kd b ≠ 585 → kd b ≠ 587 → kd b ≠ 588 → f_931 b = f b := fun b q579 q581 q583 q585 q587 q588 => (hkc_932 b q579 q581 q583 q585 q587 q588).trans (hfr0 b q579 q581 q583 q585 q587 q588)
                                          refine lv_if_eq (tgt := 223) hx hb dX12_aligns_218 (by decide) (fun c_938 => ?_) (fun c_938 => ?_)
                                          · skip
                                            rw [← Int32.toInt_inj, ti_0] at c_938
                                            obtain ⟨x_939, ex_939⟩ : ∃ y : Int32, y_656 + 1 = y := ⟨_, rfl⟩
                                            have hx_939 : x_939.toInt = y_656.toInt + 1 := by rw [← ex_939, ad_I (by rw [ti_1]; omega) (by rw [ti_1]; omega), ti_1]
                                            have bx_939 : (1 ≤ x_939.toInt ∧ x_939.toInt ≤ 20) := by constructor <;> omega
                                            refine lv_iinc (v := x_939) (lv' := [(6, .int x_939), (9, .int y_670), (8, .int x_669), (7, .int x_666), (0, .ref o0), (1, .int p1), (2, .int p2), (3, .int p3), (4, .int p4), (5, .int p5)]) hx hb dX12_aligns_223 hl (k := 3) rfl ex_939 (by decide) rfl (fun ls hl => ?_)
                                            refine lv_goto (tgt := 32) hx hb dX12_aligns_226 (by decide) ?_
                                            exact ih_hloop_655 x_939 (by constructor <;> omega) f_931 hG _ _ hP hS hD hfr0 hfo_934 (by omega) ls (lv_sub hl [0, 4, 5, 6, 7, 8, 9] rfl)
                                          · skip
                                            rw [← Int32.toInt_inj, ti_0] at c_938
                                            refine lv_iconst (v := 1) hx hb dX12_aligns_221 (by decide) ?_
                                            exact W.zret (v := 1) (ty := .boolean) hx hb hr rfl (fun t ht hW => ⟨⟨1, f_931, rfl, ⟨hG, (by decide), hfr0⟩, by rw [ht]; exact hP, va_K.moved hW.alike hK, pl_in hD⟩, hS.F ht⟩) hS.2.2 dX12_aligns_222
                                      · skip
                                        rw [← Int32.toInt_inj, ti_0] at c_924
                                        exfalso
                                        omega
                                    · skip
                                      rw [← Int32.toInt_inj, ti_0] at c_922
                                      exfalso
                                      omega
                                · skip
                                  rw [← Int32.toInt_inj] at c_909
                                  refine lv_goto (tgt := 223) hx hb dX12_aligns_148 (by decide) ?_
                                  obtain ⟨x_940, ex_940⟩ : ∃ y : Int32, y_656 + 1 = y := ⟨_, rfl⟩
                                  have hx_940 : x_940.toInt = y_656.toInt + 1 := by rw [← ex_940, ad_I (by rw [ti_1]; omega) (by rw [ti_1]; omega), ti_1]
                                  have bx_940 : (1 ≤ x_940.toInt ∧ x_940.toInt ≤ 20) := by constructor <;> omega
                                  refine lv_iinc (v := x_940) (lv' := [(6, .int x_940), (9, .int y_670), (8, .int x_669), (7, .int x_666), (0, .ref o0), (1, .int p1), (2, .int p2), (3, .int p3), (4, .int p4), (5, .int p5)]) hx hb dX12_aligns_223 hl (k := 3) rfl ex_940 (by decide) rfl (fun ls hl => ?_)
                                  refine lv_goto (tgt := 32) hx hb dX12_aligns_226 (by decide) ?_
                                  exact ih_hloop_655 x_940 (by constructor <;> omega) f_658 hG _ _ hP hS hD hfr0 hfo_659 (by omega) ls (lv_sub hl [0, 4, 5, 6, 7, 8, 9] rfl)
                refine lv_if_eq (tgt := 84) hx hb dX12_aligns_76 (by decide) (fun c_941 => ?_) (fun c_941 => ?_)
                · skip
                  rw [← Int32.toInt_inj, ti_0] at c_941
                  refine lv_iconst (v := 1) hx hb dX12_aligns_84 (by decide) ?_
                  refine lv_goto (tgt := 89) hx hb dX12_aligns_85 (by decide) ?_
                  exact hcut_671 1 (by decide) (by (try rw [ti_1]) <;> omega) ls (lv_sub hl [0, 1, 2, 3, 4, 5, 6, 7, 8] rfl)
                · skip
                  rw [← Int32.toInt_inj, ti_0] at c_941
                  refine lv_iload hx hb dX12_aligns_79 (lv_at hl 0 rfl) ?_
                  refine lv_if_ne (tgt := 88) hx hb dX12_aligns_81 (by decide) (fun c_942 => ?_) (fun c_942 => ?_)
                  · skip
                    rw [← Int32.toInt_inj, ti_0] at c_942
                    refine lv_iconst (v := 0) hx hb dX12_aligns_88 (by decide) ?_
                    exact hcut_671 0 (by decide) (by (try rw [ti_0]) <;> omega) ls (lv_sub hl [0, 1, 2, 3, 4, 5, 6, 7, 8] rfl)
                  · skip
                    rw [← Int32.toInt_inj, ti_0] at c_942
                    refine lv_iconst (v := 1) hx hb dX12_aligns_84 (by decide) ?_
                    refine lv_goto (tgt := 89) hx hb dX12_aligns_85 (by decide) ?_
                    exact hcut_671 1 (by decide) (by (try rw [ti_1]) <;> omega) ls (lv_sub hl [0, 1, 2, 3, 4, 5, 6, 7, 8] rfl)
          exact hloop_655 21 0 (by decide) f hG _ _ hP hS hD hfr0 hfo_1 (by (try rw [ti_0]) <;> omega) ls hl
        · skip
          rw [← Int32.toInt_inj, ti_0] at c_649
          refine lv_iconst (v := 1) hx hb dX12_aligns_27 (by decide) ?_
          exact W.zret (v := 1) (ty := .boolean) hx hb hr rfl (fun t ht hW => ⟨⟨1, f, rfl, ⟨hG, (by decide), hfr0⟩, by rw [ht]; exact hP, va_K.moved hW.alike hK, pl_in hD⟩, hS.F ht⟩) hS.2.2 dX12_aligns_28
