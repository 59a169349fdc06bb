set_option maxHeartbeats 8000000 in
set_option maxRecDepth 100000 in
theorem s_X12_ruled_k12 (l : Launch) (D : va_G) (cI cL cZ cR cG cH : ClassId) (Z : zT) (kd : Nat → Nat) (L : List Nat) (f : Nat → va_E) (hG : GI (okc cI cL cZ cR cG cH L kd) kd L f) (o0 : Nat) (mo0 : o0 ∈ L) (ko0 : kd o0 = 12) (hxtr0 : ∀ d9, fldR (f o0) 1 = some d9 → frel kd 576 7 f d9) : mPI l D cI cL cZ cR cG cH Z yX12_ruled cX12_ruled 6 (some .boolean) 7 150 [.ref o0] L f (fun (r : Int32) (f9 : Nat → va_E) => GI (okc cI cL cZ cR cG cH L kd) kd L f9 ∧ (0 ≤ r.toInt ∧ r.toInt ≤ 1) ∧ (∀ b, kd b ≠ 12 → kd b ≠ 576 → f9 b = f b) ∧ (∀ b, kd b = 12 → ∀ j, fldR (f9 b) j = fldR (f b) j) ∧ (∀ b, kd b = 12 → ∀ j, j ≠ 6 → j ≠ 7 → j ≠ 8 → j ≠ 11 → j ≠ 12 → j ≠ 13 → j ≠ 14 → fldI (f9 b) j = fldI (f b) j) ∧ (∀ (w6 z6 : Int32), fldI (f o0) 6 = some w6 → fldI (f9 o0) 6 = some z6 → w6.toInt ≤ z6.toInt) ∧ (∀ d9, fldR (f9 o0) 1 = some d9 → frel kd 576 8 f9 d9)) := by
  obtain ⟨dC, dI⟩ := D
  refine Met.ofW (cc := cX12_ruled) (maxL := 6) (ret := (some .boolean)) (by decide) rfl ?_
  intro p e s m args below meth c s₁ B hml hv
  obtain ⟨rfl, hP, hK, hD0, hN, hZ⟩ := hv
  have hx := B.exec
  have hb := B.bytes
  have hr := B.returns
  have hU : ∀ w ∈ wsU, w.before _ s = true := fun w h => atoms_spec (ws := wU yX12_ruled cX12_ruled 6 (some .boolean)) B.pre w (List.mem_cons_of_mem _ h)
  have hown : s.vm.findClass RX12 = some m.cls := findClass_of_methodNamed B.named
  have hlocks := B.notSynchronized
  have hD := pl_in hD0
  have hS : va_S (fun q => q ∈ L) s.heap s.heap [] := va_S.rf
  have hl := lv_entry ([.ref o0]) (n := 6) (Nat.le_of_ble_eq_true rfl)
  rw [lg_entry_eq]
  generalize (lg_sl ([.ref o0]) ++ List.replicate (6 - (lg_sl ([.ref o0])).length) Slot.unset).toArray = ls at hl ⊢
  have hl : lv_has ls 6 [(0, .ref o0)] := hl
  have hfr0 : ∀ b, kd b ≠ 12 → kd b ≠ 576 → f b = f b := fun _ _ _ => rfl
  have hrA12 : ∀ b, kd b = 12 → ∀ j, fldR (f b) j = fldR (f b) j := fun _ _ _ => rfl
  have hfA12 : ∀ b, kd b = 12 → ∀ j, j ≠ 6 → j ≠ 7 → j ≠ 8 → j ≠ 11 → j ≠ 12 → j ≠ 13 → j ≠ 14 → fldI (f b) j = fldI (f b) j := fun _ _ _ _ _ _ _ _ _ _ => rfl
  obtain ⟨a_1, a_2, a_3, v_4, a_5, v_6, v_7, v_8, v_9, v_10, v_11, v_12, v_13, v_14, v_15, a_16, a_17, a_18, a_19, a_20, a_21, a_22, a_23, v_24, v_25, v_26, v_27, v_28, a_29, v_30, a_31, a_32, v_33, v_34, a_35, v_36, a_37, a_38, v_39, v_40, a_41, a_42, a_43, v_44, a_45, a_46, a_47, a_48, a_49, a_50, a_51, a_52, a_53, v_54, v_55, a_56, hfo_57, fa_58⟩ := un12 (hG _ mo0) ko0
  obtain ⟨ma_2, ka_2⟩ := fa12_1 fa_58
  have bv_7 : (0 ≤ v_7.toInt ∧ v_7.toInt ≤ 600) := fa12_6 fa_58
  have hT0 := hxtr0 a_2 (by rw [hfo_57]; rfl)
  have hM : (∀ z9, fldI (f o0) 6 = some z9 → v_7.toInt ≤ z9.toInt) := fun z9 h9 => by rw [hfo_57] at h9; obtain rfl := Option.some.inj h9; exact Int.le_refl _
  refine lv_aload_n hx hb dX12_ruled_0 rfl (lv_at hl 0 rfl) ?_
  refine tk_getP (D := (dC, dI)) (ci := 12) (v := .ref a_2) (C := RX12) (T := TX12) (N := 56) hx hb hU inlX12 hown hK hP mo0 hfo_57 rfl 1 (by decide) (hU _ wd_170) (fun _ h9 => h9) rfl dX12_ruled_1 ?_
  refine lv_bipush (v := 17) hx hb dX12_ruled_4 (by decide) ?_
  obtain ⟨g_60, hfo_59, hbg_60⟩ := un_576 (hG _ ma_2) ka_2
  refine tk_ildP hx hb hK hP 0 ma_2 hfo_59 rfl (vp_in_nI (n := 17) (by decide) (by decide)) dX12_ruled_6 ?_
  refine lv_topi (fun x_61 ex_61 => ?_)
  have bx_61 : (0 ≤ x_61.toInt ∧ x_61.toInt ≤ 8) := by rw [ex_61]; exact hbg_60.2.2.1 _ (by decide) (by decide) (by decide)
  have hnrc_62 : (0 ≤ x_61.toInt ∧ x_61.toInt ≤ 7) := by have hq1 := (hT0.get hfo_59).2.2.2; have hq2 : x_61.toInt = (g_60 17).toInt := (by rw [ex_61]; rfl); constructor <;> omega
  refine lv_istore_n (lv' := [(1, .int x_61), (0, .ref o0)]) hx hb dX12_ruled_7 rfl hl (by decide) rfl (fun ls hl => ?_)
  refine lv_aload_n hx hb dX12_ruled_8 rfl (lv_at hl 1 rfl) ?_
  refine tk_ViP (As := []) (rest := []) (n := 0) hx hb hml hown hU hN hZ (s_X12_takesPair_k12_F7 l (dC, dI) cI cL cZ cR cG cH Z kd L f hG o0 mo0 ko0 (fun d9 h9 => by rw [hfo_57] at h9; obtain rfl := Option.some.inj h9; exact hT0)) wd_613 wd_614 wd_615 wd_5 wd_616 (by decide +kernel) ⟨Nat.le_of_ble_eq_true rfl, Nat.le_of_ble_eq_true rfl⟩ hK hP hD hS mo0 hfo_57 12 rfl rfl rfl hl.1 rfl (Nat.le_of_ble_eq_true rfl) dX12_ruled_9 ⟨Nat.le_of_ble_eq_true rfl, Nat.le_of_ble_eq_true rfl⟩ (fun x_63 f_64 H locs hw hP hD hS => ?_)
  obtain ⟨hG, bx_63, hkc_65, hra_66, hfa_67, hpost_68, hTc_69⟩ := hw
  have hfr0 : ∀ b, kd b ≠ 12 → kd b ≠ 576 → f_64 b = f b := fun b q12 q576 => (hkc_65 b q12 q576).trans (hfr0 b q12 q576)
  have hrA12 : ∀ b, kd b = 12 → ∀ j, fldR (f_64 b) j = fldR (f b) j := fun b kb j => (hra_66 b kb j).trans (hrA12 b kb j)
  have hfA12 : ∀ b, kd b = 12 → ∀ j, j ≠ 6 → j ≠ 7 → j ≠ 8 → j ≠ 11 → j ≠ 12 → j ≠ 13 → j ≠ 14 → fldI (f_64 b) j = fldI (f b) j := fun b kb j n6 n7 n8 n11 n12 n13 n14 => (hfa_67 b kb j n6 n7 n8 n11 n12 n13).trans (hfA12 b kb j n6 n7 n8 n11 n12 n13 n14)
  obtain ⟨v_71, v_72, v_73, v_74, v_75, v_76, hfo_77, fa_78⟩ := op12_6_7_8_11_12_13 hfo_57 (hG _ mo0) ko0 (hra_66 o0 ko0) (hfa_67 o0 ko0)
  have bv_71 : (0 ≤ v_71.toInt ∧ v_71.toInt ≤ 600) := fa12_6 fa_78
  have bv_72 : ((-2147483648) ≤ v_72.toInt ∧ v_72.toInt ≤ 2147483647) := ⟨i32_lo _, i32_hi _⟩
  have bv_73 : ((-2147483648) ≤ v_73.toInt ∧ v_73.toInt ≤ 2147483647) := ⟨i32_lo _, i32_hi _⟩
  have bv_74 : (0 ≤ v_74.toInt ∧ v_74.toInt ≤ 8) := fa12_11 fa_78
  have bv_75 : (0 ≤ v_75.toInt ∧ v_75.toInt ≤ 8) := fa12_12 fa_78
  have bv_76 : (0 ≤ v_76.toInt ∧ v_76.toInt ≤ 8) := fa12_13 fa_78
  have hqhpost_68 := hpost_68 v_7 v_71 (by rw [hfo_57]; rfl) (by rw [hfo_77]; rfl)
  have hMm_79 : (∀ z9, fldI (f_64 o0) 6 = some z9 → v_7.toInt ≤ z9.toInt) := fun z9 h9 => by rw [hfo_77] at h9; obtain rfl := Option.some.inj h9; have h8 := hM v_7 (by rw [hfo_57]; rfl); omega
  have hT_80 := hTc_69 a_2 (by rw [hfo_77]; rfl)
  refine lv_if_ne (tgt := 17) hx hb dX12_ruled_12 (by decide) (fun c_81 => ?_) (fun c_81 => ?_)
  · skip
    rw [← Int32.toInt_inj, ti_0] at c_81
    refine lv_aload_n hx hb dX12_ruled_17 rfl (lv_at hl 1 rfl) ?_
    refine tk_ViP (As := []) (rest := []) (n := 0) hx hb hml hown hU hN hZ (s_X12_op_k12 l (dC, dI) cI cL cZ cR cG cH Z kd L f_64 hG o0 mo0 ko0) wd_635 wd_636 wd_637 wd_5 wd_638 (by decide +kernel) ⟨Nat.le_of_ble_eq_true rfl, Nat.le_of_ble_eq_true rfl⟩ hK hP hD hS mo0 hfo_77 12 rfl rfl rfl hl.1 rfl (Nat.le_of_ble_eq_true rfl) dX12_ruled_18 ⟨Nat.le_of_ble_eq_true rfl, Nat.le_of_ble_eq_true rfl⟩ (fun x_82 f_83 H locs hw hP hD hS => ?_)
    obtain ⟨hG, bx_82, hkc_84, hra_85, hfa_86, hpost_87⟩ := hw
    have hfr0 : ∀ b, kd b ≠ 12 → kd b ≠ 576 → f_83 b = f b := fun b q12 q576 => (hkc_84 b q12).trans (hfr0 b q12 q576)
    have hrA12 : ∀ b, kd b = 12 → ∀ j, fldR (f_83 b) j = fldR (f b) j := fun b kb j => (hra_85 b kb j).trans (hrA12 b kb j)
    have hfA12 : ∀ b, kd b = 12 → ∀ j, j ≠ 6 → j ≠ 7 → j ≠ 8 → j ≠ 11 → j ≠ 12 → j ≠ 13 → j ≠ 14 → fldI (f_83 b) j = fldI (f b) j := fun b kb j n6 n7 n8 n11 n12 n13 n14 => (hfa_86 b kb j n6).trans (hfA12 b kb j n6 n7 n8 n11 n12 n13 n14)
    have hT_80 : frel kd 576 7 f_83 a_2 := hT_80.keep (fun b q => hkc_84 b (by rw [q]; decide))
    obtain ⟨v_89, hfo_90, fa_91⟩ := op12_6 hfo_77 (hG _ mo0) ko0 (hra_85 o0 ko0) (hfa_86 o0 ko0)
    have bv_89 : (0 ≤ v_89.toInt ∧ v_89.toInt ≤ 600) := fa12_6 fa_91
    have hqhpost_87 := hpost_87 v_71 v_89 (by rw [hfo_77]; rfl) (by rw [hfo_90]; rfl)
    have hMm_92 : (∀ z9, fldI (f_83 o0) 6 = some z9 → v_7.toInt ≤ z9.toInt) := fun z9 h9 => by rw [hfo_90] at h9; obtain rfl := Option.some.inj h9; have h8 := hMm_79 v_71 (by rw [hfo_77]; rfl); omega
    refine lv_istore_n (lv' := [(2, .int x_82), (1, .int x_61), (0, .ref o0)]) hx hb dX12_ruled_21 rfl hl (by decide) rfl (fun ls hl => ?_)
    refine lv_iload_n hx hb dX12_ruled_22 rfl (lv_at hl 0 rfl) ?_
    refine lv_iconst (v := (-1)) hx hb dX12_ruled_23 (by decide) ?_
    refine lv_icmp_ne (tgt := 37) hx hb dX12_ruled_24 (by decide) (fun c_93 => ?_) (fun c_93 => ?_)
    · skip
      rw [← Int32.toInt_inj, ti_m1] at c_93
      refine lv_iload_n hx hb dX12_ruled_37 rfl (lv_at hl 0 rfl) ?_
      refine lv_iconst (v := 1) hx hb dX12_ruled_38 (by decide) ?_
      refine lv_icmp_eq (tgt := 47) hx hb dX12_ruled_39 (by decide) (fun c_94 => ?_) (fun c_94 => ?_)
      · skip
        rw [← Int32.toInt_inj, ti_1] at c_94
        refine lv_aload_n hx hb dX12_ruled_47 rfl (lv_at hl 2 rfl) ?_
        refine tk_getP (D := (dC, dI)) (ci := 12) (v := .int v_75) (C := RX12) (T := TX12) (N := 56) hx hb hU inlX12 hown hK hP mo0 hfo_90 rfl 12 (by decide) (hU _ wd_618) (fun _ h9 => h9) rfl dX12_ruled_48 ?_
        refine lv_if_ne (tgt := 64) hx hb dX12_ruled_51 (by decide) (fun c_95 => ?_) (fun c_95 => ?_)
        · skip
          rw [← Int32.toInt_inj, ti_0] at c_95
          refine lv_aload_n hx hb dX12_ruled_64 rfl (lv_at hl 2 rfl) ?_
          refine lv_dup hx hb dX12_ruled_65 rfl ?_
          refine tk_getP (D := (dC, dI)) (ci := 12) (v := .int v_89) (C := RX12) (T := TX12) (N := 56) hx hb hU inlX12 hown hK hP mo0 hfo_90 rfl 6 (by decide) (hU _ wd_566) (fun _ h9 => h9) rfl dX12_ruled_66 ?_
          refine lv_iload_n hx hb dX12_ruled_69 rfl (lv_at hl 0 rfl) ?_
          refine lv_if_eq (tgt := 78) hx hb dX12_ruled_70 (by decide) (fun c_96 => ?_) (fun c_96 => ?_)
          · skip
            rw [← Int32.toInt_inj, ti_0] at c_96
            exfalso
            omega
          · skip
            rw [← Int32.toInt_inj, ti_0] at c_96
            refine lv_iload_n hx hb dX12_ruled_73 rfl (lv_at hl 0 rfl) ?_
            refine lv_iconst (v := 1) hx hb dX12_ruled_74 (by decide) ?_
            refine lv_icmp_ne (tgt := 82) hx hb dX12_ruled_75 (by decide) (fun c_97 => ?_) (fun c_97 => ?_)
            · skip
              rw [← Int32.toInt_inj, ti_1] at c_97
              exfalso
              omega
            · skip
              rw [← Int32.toInt_inj, ti_1] at c_97
              refine lv_iconst (v := 2) hx hb dX12_ruled_78 (by decide) ?_
              refine lv_goto (tgt := 83) hx hb dX12_ruled_79 (by decide) ?_
              refine lv_iadd hx hb dX12_ruled_83 ?_
              refine lv_topi (fun x_98 ex_98 => ?_)
              have hx_98 : x_98.toInt = v_89.toInt + 2 := by rw [ex_98, ad_I (by rw [ti_2]; omega) (by rw [ti_2]; omega), ti_2]
              have bx_98 : (2 ≤ x_98.toInt ∧ x_98.toInt ≤ 602) := by constructor <;> omega
              have hclc_99 : (0 ≤ x_98.toInt ∧ x_98.toInt ≤ 600) := by constructor <;> omega
              refine tk_putP (D := (dC, dI)) (ci := 12) (v := .int x_98) (ty := .int) (C := RX12) (T := TX12) (N := 56) hx hb hU inlX12 tyX12 tyX12_ok nmX12 hown hK hP hD hS mo0 hfo_90 rfl 6 (by decide) (hU _ wd_566) (fun _ h9 => h9) rfl (by decide +kernel) rfl rfl (Nat.le_of_ble_eq_true rfl) dX12_ruled_84 (fun H locs hP hD hS => ?_)
              have fa_100 := fu12_6 (y := x_98) fa_91 (by constructor <;> omega)
              obtain ⟨f_102, ef_102⟩ : ∃ y : Nat → va_E, y = va_up f_83 o0 (.inr (12, [.ref a_1, .ref a_2, .ref a_3, .int v_4, .ref a_5, .int v_6, .int x_98, .int v_72, .int v_73, .int v_10, .int v_11, .int v_74, .int v_75, .int v_76, .int v_15, .ref a_16, .ref a_17, .ref a_18, .ref a_19, .ref a_20, .ref a_21, .ref a_22, .ref a_23, .int v_24, .int v_25, .int v_26, .int v_27, .int v_28, .ref a_29, .int v_30, .ref a_31, .ref a_32, .int v_33, .int v_34, .ref a_35, .int v_36, .ref a_37, .ref a_38, .int v_39, .int v_40, .ref a_41, .ref a_42, .ref a_43, .int v_44, .ref a_45, .ref a_46, .ref a_47, .ref a_48, .ref a_49, .ref a_50, .ref a_51, .ref a_52, .ref a_53, .int v_54, .int v_55, .ref a_56])) := ⟨_, rfl⟩
              have hP : va_P (dC, dI) vwCl (va_pl L f_102) H := by rw [ef_102]; exact hP
              have hD : va_D (fun q => q ∈ L) (va_pl L f_102) := by rw [ef_102]; exact hD
              have hG : GI (okc cI cL cZ cR cG cH L kd) kd L f_102 := by rw [ef_102]; exact hG.set o0 (mk_12 ko0 (fo12 fa_100))
              have hfr0 : ∀ b, kd b ≠ 12 → kd b ≠ 576 → f_102 b = f b := fun b q12 q576 => (congrFun ef_102 b).trans ((up_ne (fun e9 => q12 (by rw [e9]; exact ko0))).trans (hfr0 b q12 q576))
              have hrA12 : ∀ b, kd b = 12 → ∀ j, fldR (f_102 b) j = fldR (f b) j := fun b kb j => ((congrArg (fun x => fldR x j) (congrFun ef_102 b)).trans (fra_up (fun j => by rw [hfo_90]; exact fr_set (k := 6) rfl rfl) j b)).trans (hrA12 b kb j)
              have hfA12 : ∀ b, kd b = 12 → ∀ j, j ≠ 6 → j ≠ 7 → j ≠ 8 → j ≠ 11 → j ≠ 12 → j ≠ 13 → j ≠ 14 → fldI (f_102 b) j = fldI (f b) j := fun b kb j n6 n7 n8 n11 n12 n13 n14 => ((congrArg (fun x => fldI x j) (congrFun ef_102 b)).trans (fia_up (fun h9 => by rw [hfo_90]; exact fi_set (k := 6) rfl h9) n6 b)).trans (hfA12 b kb j n6 n7 n8 n11 n12 n13 n14)
              have hT_80 : frel kd 576 7 f_102 a_2 := by rw [ef_102]; exact hT_80.keep (fun b q => up_ne (kd_ne ko0 q (by decide)))
              have hMm_92 : (∀ z9, fldI (f_102 o0) 6 = some z9 → v_7.toInt ≤ z9.toInt) := by rw [ef_102]; exact (fun z9 h9 => by rw [up_self] at h9; obtain rfl := Option.some.inj h9; have h8 := hMm_92 v_89 (by rw [hfo_90]; rfl); omega)
              have hfo_103 : f_102 o0 = .inr (12, [.ref a_1, .ref a_2, .ref a_3, .int v_4, .ref a_5, .int v_6, .int x_98, .int v_72, .int v_73, .int v_10, .int v_11, .int v_74, .int v_75, .int v_76, .int v_15, .ref a_16, .ref a_17, .ref a_18, .ref a_19, .ref a_20, .ref a_21, .ref a_22, .ref a_23, .int v_24, .int v_25, .int v_26, .int v_27, .int v_28, .ref a_29, .int v_30, .ref a_31, .ref a_32, .int v_33, .int v_34, .ref a_35, .int v_36, .ref a_37, .ref a_38, .int v_39, .int v_40, .ref a_41, .ref a_42, .ref a_43, .int v_44, .ref a_45, .ref a_46, .ref a_47, .ref a_48, .ref a_49, .ref a_50, .ref a_51, .ref a_52, .ref a_53, .int v_54, .int v_55, .ref a_56]) := by rw [ef_102]; exact up_self
              refine lv_iconst (v := 0) hx hb dX12_ruled_87 (by decide) ?_
              refine lv_istore_n (lv' := [(3, .int 0), (2, .int x_82), (1, .int x_61), (0, .ref o0)]) hx hb dX12_ruled_88 rfl hl (by decide) rfl (fun ls hl => ?_)
              refine lv_iconst (v := 1) hx hb dX12_ruled_89 (by decide) ?_
              refine lv_istore (lv' := [(4, .int 1), (3, .int 0), (2, .int x_82), (1, .int x_61), (0, .ref o0)]) hx hb dX12_ruled_90 hl (by decide) rfl (fun ls hl => ?_)
              have hloop_110 : ∀ (n : Nat), ∀ (y_111 : Int32), (0 ≤ y_111.toInt ∧ y_111.toInt ≤ 1) → ∀ (y_112 : Int32), (0 ≤ y_112.toInt ∧ y_112.toInt ≤ 3) → ∀ (f_114 : Nat → va_E), GI (okc cI cL cZ cR cG cH L kd) kd L f_114 → ∀ (H : Heap) (locs : List Loc), va_P (dC, dI) vwCl (va_pl L f_114) H → va_S (fun q => q ∈ L) s.heap H locs → va_D (fun q => q ∈ L) (va_pl L f_114) → (∀ b, kd b ≠ 12 → kd b ≠ 576 → f_114 b = f b) → (∀ b, kd b = 12 → ∀ j, fldR (f_114 b) j = fldR (f b) j) → (∀ b, kd b = 12 → ∀ j, j ≠ 6 → j ≠ 7 → j ≠ 8 → j ≠ 11 → j ≠ 12 → j ≠ 13 → j ≠ 14 → fldI (f_114 b) j = fldI (f b) j) → frel kd 576 7 f_114 a_2 → (∀ z9, fldI (f_114 o0) 6 = some z9 → v_7.toInt ≤ z9.toInt) → (y_111.toInt = 0 ∨ y_112.toInt ≤ 2) → 4 - y_112.toInt < (n : Int) → ∀ (ls : Array Slot), lv_has ls 6 [(4, .int y_111), (3, .int y_112), (2, .int x_82), (1, .int x_61), (0, .ref o0)] → W p l e (headSpec (wU yX12_ruled cX12_ruled 6 (some .boolean)) { frames := 7, cells := 0, slots := 0, locals := 150 }).room s m [.ref o0].toArray below meth c H locs 0 0 (MQ below (va_Qi (fun (r : Int32) (f9 : Nat → va_E) => GI (okc cI cL cZ cR cG cH L kd) kd L f9 ∧ (0 ≤ r.toInt ∧ r.toInt ≤ 1) ∧ (∀ b, kd b ≠ 12 → kd b ≠ 576 → f9 b = f b) ∧ (∀ b, kd b = 12 → ∀ j, fldR (f9 b) j = fldR (f b) j) ∧ (∀ b, kd b = 12 → ∀ j, j ≠ 6 → j ≠ 7 → j ≠ 8 → j ≠ 11 → j ≠ 12 → j ≠ 13 → j ≠ 14 → fldI (f9 b) j = fldI (f b) j) ∧ (∀ (w6 z6 : Int32), fldI (f o0) 6 = some w6 → fldI (f9 o0) 6 = some z6 → w6.toInt ≤ z6.toInt) ∧ (∀ d9, fldR (f9 o0) 1 = some d9 → frel kd 576 8 f9 d9)) (qP (dC, dI) cI cL cZ cR cG cH L) (fun q => q ∈ L)) [.ref o0].toArray s 0 0 (fun q => q ∈ L)) (F0 m 92 ls []) := by
                intro n
                induction n with
                | zero => intro y_111 by_111 y_112 by_112 f_114 hG H locs hP hS hD hfr0 hrA12 hfA12 hT_80 hMm_92 hrelhloop_110_0 hmuhloop_110 ls hl; exfalso; omega
                | succ n ih_hloop_110 =>
                  intro y_111 by_111 y_112 by_112 f_114 hG H locs hP hS hD hfr0 hrA12 hfA12 hT_80 hMm_92 hrelhloop_110_0 hmuhloop_110 ls hl
                  refine lv_iload hx hb dX12_ruled_92 (lv_at hl 0 rfl) ?_
                  refine lv_if_eq (tgt := 168) hx hb dX12_ruled_94 (by decide) (fun c_115 => ?_) (fun c_115 => ?_)
                  · skip
                    rw [← Int32.toInt_inj, ti_0] at c_115
                    refine lv_sipush (v := 460) hx hb dX12_ruled_168 (by decide) ?_
                    refine lv_iconst (v := 4) hx hb dX12_ruled_171 (by decide) ?_
                    refine lv_iload_n hx hb dX12_ruled_172 rfl (lv_at hl 3 rfl) ?_
                    refine lv_imul hx hb dX12_ruled_173 ?_
                    refine lv_topi (fun x_116 ex_116 => ?_)
                    have hx_116 : x_116.toInt = 4 * x_61.toInt := by rw [ex_116, ml_I (by rw [ti_4]; omega) (by rw [ti_4]; omega), ti_4]
                    have bx_116 : (0 ≤ x_116.toInt ∧ x_116.toInt ≤ 28) := by constructor <;> omega
                    refine lv_iadd hx hb dX12_ruled_174 ?_
                    refine lv_topi (fun x_117 ex_117 => ?_)
                    have hx_117 : x_117.toInt = 460 + x_116.toInt := by rw [ex_117, ad_I (by rw [ti_460]; omega) (by rw [ti_460]; omega), ti_460]
                    have bx_117 : (460 ≤ x_117.toInt ∧ x_117.toInt ≤ 488) := by constructor <;> omega
                    refine lv_istore (lv' := [(5, .int x_117), (4, .int y_111), (3, .int y_112), (2, .int x_82), (1, .int x_61), (0, .ref o0)]) hx hb dX12_ruled_175 hl (by decide) rfl (fun ls hl => ?_)
                    refine lv_aload_n hx hb dX12_ruled_177 rfl (lv_at hl 5 rfl) ?_
                    obtain ⟨v_118, v_119, v_120, v_121, v_122, v_123, v_124, hfo_125, fa_126⟩ := op12_6_7_8_11_12_13_14 hfo_57 (hG _ mo0) ko0 (hrA12 o0 ko0) (hfA12 o0 ko0)
                    have bv_118 : (0 ≤ v_118.toInt ∧ v_118.toInt ≤ 600) := fa12_6 fa_126
                    have bv_119 : ((-2147483648) ≤ v_119.toInt ∧ v_119.toInt ≤ 2147483647) := ⟨i32_lo _, i32_hi _⟩
                    have bv_120 : ((-2147483648) ≤ v_120.toInt ∧ v_120.toInt ≤ 2147483647) := ⟨i32_lo _, i32_hi _⟩
                    have bv_121 : (0 ≤ v_121.toInt ∧ v_121.toInt ≤ 8) := fa12_11 fa_126
                    have bv_122 : (0 ≤ v_122.toInt ∧ v_122.toInt ≤ 8) := fa12_12 fa_126
                    have bv_123 : (0 ≤ v_123.toInt ∧ v_123.toInt ≤ 8) := fa12_13 fa_126
                    have bv_124 : ((-2147483648) ≤ v_124.toInt ∧ v_124.toInt ≤ 2147483647) := ⟨i32_lo _, i32_hi _⟩
                    refine tk_getP (D := (dC, dI)) (ci := 12) (v := .ref a_2) (C := RX12) (T := TX12) (N := 56) hx hb hU inlX12 hown hK hP mo0 hfo_125 rfl 1 (by decide) (hU _ wd_170) (fun _ h9 => h9) rfl dX12_ruled_178 ?_
                    refine lv_iload hx hb dX12_ruled_181 (lv_at hl 0 rfl) ?_
                    refine lv_aload_n hx hb dX12_ruled_183 rfl (lv_at hl 5 rfl) ?_
                    refine tk_getP (D := (dC, dI)) (ci := 12) (v := .int v_122) (C := RX12) (T := TX12) (N := 56) hx hb hU inlX12 hown hK hP mo0 hfo_125 rfl 12 (by decide) (hU _ wd_618) (fun _ h9 => h9) rfl dX12_ruled_184 ?_
                    obtain ⟨g_128, hfo_127, hbg_128⟩ := un_576 (hG _ ma_2) ka_2
                    refine tk_istP hx hb hK hP hD hS 0 ma_2 hfo_127 rfl (vp_in_iff.mpr (by constructor <;> omega)) dX12_ruled_187 (fun H locs hP hD hS => ?_)
                    have hc9 := cl_I (i := x_117) (by omega)
                    obtain ⟨g_129, eqg_129⟩ : ∃ y : Nat → Int32, y = upd g_128 (Int32.toNatClampNeg x_117) v_122 := ⟨_, rfl⟩
                    rw [← eqg_129] at hP hD
                    have hbg_129 : wOK g_129 := by rw [eqg_129]; exact ⟨hbg_128.1.up (fun h1 h2 h3 => by exfalso; omega), hbg_128.2.1.up (fun h1 h2 h3 => by exfalso; omega), hbg_128.2.2.1.up (fun h1 h2 h3 => by exfalso; omega), hbg_128.2.2.2.1.up (fun h1 h2 h3 => by exfalso; omega), hbg_128.2.2.2.2.1.up (fun h1 h2 h3 => by exfalso; omega), hbg_128.2.2.2.2.2.1.up (fun h1 h2 h3 => by exfalso; omega), hbg_128.2.2.2.2.2.2.1.up (fun h1 h2 h3 => by exfalso; omega), hbg_128.2.2.2.2.2.2.2.1.up (fun h1 h2 h3 => by exfalso; omega), hbg_128.2.2.2.2.2.2.2.2.1.up (fun h1 h2 h3 => by exfalso; omega), hbg_128.2.2.2.2.2.2.2.2.2.1.up (fun h1 h2 h3 => by exfalso; omega), hbg_128.2.2.2.2.2.2.2.2.2.2.1.up (fun h1 h2 h3 => by exfalso; omega), hbg_128.2.2.2.2.2.2.2.2.2.2.2.1.up (fun h1 h2 h3 => by exfalso; omega), hbg_128.2.2.2.2.2.2.2.2.2.2.2.2.1.up (fun h1 h2 h3 => by constructor <;> omega), hbg_128.2.2.2.2.2.2.2.2.2.2.2.2.2.1.up (fun h1 h2 h3 => by exfalso; omega), hbg_128.2.2.2.2.2.2.2.2.2.2.2.2.2.2.1.up (fun h1 h2 h3 => by exfalso; omega), hbg_128.2.2.2.2.2.2.2.2.2.2.2.2.2.2.2.up (fun h1 h2 h3 => by exfalso; omega)⟩
                    obtain ⟨f_131, ef_131⟩ : ∃ y : Nat → va_E, y = va_up f_114 a_2 (.inl (cI, 1560, .inl g_129)) := ⟨_, rfl⟩
                    have hP : va_P (dC, dI) vwCl (va_pl L f_131) H := by rw [ef_131]; exact hP
                    have hD : va_D (fun q => q ∈ L) (va_pl L f_131) := by rw [ef_131]; exact hD
                    have hG : GI (okc cI cL cZ cR cG cH L kd) kd L f_131 := by rw [ef_131]; exact hG.set a_2 (mk_576 ka_2 ⟨_, rfl, hbg_129⟩)
                    have hfo_132 : f_131 o0 = .inr (12, [.ref a_1, .ref a_2, .ref a_3, .int v_4, .ref a_5, .int v_6, .int v_118, .int v_119, .int v_120, .int v_10, .int v_11, .int v_121, .int v_122, .int v_123, .int v_124, .ref a_16, .ref a_17, .ref a_18, .ref a_19, .ref a_20, .ref a_21, .ref a_22, .ref a_23, .int v_24, .int v_25, .int v_26, .int v_27, .int v_28, .ref a_29, .int v_30, .ref a_31, .ref a_32, .int v_33, .int v_34, .ref a_35, .int v_36, .ref a_37, .ref a_38, .int v_39, .int v_40, .ref a_41, .ref a_42, .ref a_43, .int v_44, .ref a_45, .ref a_46, .ref a_47, .ref a_48, .ref a_49, .ref a_50, .ref a_51, .ref a_52, .ref a_53, .int v_54, .int v_55, .ref a_56]) := by rw [ef_131, up_ne (kd_ne ka_2 ko0 (by decide))]; exact hfo_125
                    have hfr0 : ∀ b, kd b ≠ 12 → kd b ≠ 576 → f_131 b = f b := fun b q12 q576 => (congrFun ef_131 b).trans ((up_ne (fun e9 => q576 (by rw [e9]; exact ka_2))).trans (hfr0 b q12 q576))
                    have hrA12 : ∀ b, kd b = 12 → ∀ j, fldR (f_131 b) j = fldR (f b) j := fun b kb j => (congrArg (fun x => fldR x j) ((congrFun ef_131 b).trans (up_ne (kd_ne ka_2 kb (by decide))))).trans (hrA12 b kb j)
                    have hfA12 : ∀ b, kd b = 12 → ∀ j, j ≠ 6 → j ≠ 7 → j ≠ 8 → j ≠ 11 → j ≠ 12 → j ≠ 13 → j ≠ 14 → fldI (f_131 b) j = fldI (f b) j := fun b kb j n6 n7 n8 n11 n12 n13 n14 => (congrArg (fun x => fldI x j) ((congrFun ef_131 b).trans (up_ne (kd_ne ka_2 kb (by decide))))).trans (hfA12 b kb j n6 n7 n8 n11 n12 n13 n14)
                    have hT_80 : frel kd 576 7 f_131 a_2 := by rw [ef_131]; exact frel.mk ka_2 up_self (by rw [eqg_129]; exact (hT_80.get hfo_127).up (hbg_128.2.1 16 (by decide) (by decide) (by decide)).2 (by omega) (by omega) (by omega) (fun h9 => by exfalso; omega))
                    have hMm_92 : (∀ z9, fldI (f_131 o0) 6 = some z9 → v_7.toInt ≤ z9.toInt) := by rw [ef_131]; exact (fun z9 h9 => hMm_92 z9 (by rw [up_ne (kd_ne ka_2 ko0 (by decide))] at h9; exact h9))
                    have hfo_133 : f_131 a_2 = .inl (cI, 1560, .inl g_129) := by rw [ef_131]; exact up_self
                    have ql_134 : v_122 = g_129 (Int32.toNatClampNeg x_117) := by rw [eqg_129, pk_us]
                    refine lv_aload_n hx hb dX12_ruled_188 rfl (lv_at hl 5 rfl) ?_
                    refine tk_getP (D := (dC, dI)) (ci := 12) (v := .ref a_2) (C := RX12) (T := TX12) (N := 56) hx hb hU inlX12 hown hK hP mo0 hfo_132 rfl 1 (by decide) (hU _ wd_170) (fun _ h9 => h9) rfl dX12_ruled_189 ?_
                    refine lv_iload hx hb dX12_ruled_192 (lv_at hl 0 rfl) ?_
                    refine lv_iconst (v := 1) hx hb dX12_ruled_194 (by decide) ?_
                    refine lv_iadd hx hb dX12_ruled_195 ?_
                    refine lv_topi (fun x_135 ex_135 => ?_)
                    have hx_135 : x_135.toInt = x_117.toInt + 1 := by rw [ex_135, ad_I (by rw [ti_1]; omega) (by rw [ti_1]; omega), ti_1]
                    have bx_135 : (461 ≤ x_135.toInt ∧ x_135.toInt ≤ 489) := by constructor <;> omega
                    refine lv_aload_n hx hb dX12_ruled_196 rfl (lv_at hl 5 rfl) ?_
                    refine tk_getP (D := (dC, dI)) (ci := 12) (v := .int v_123) (C := RX12) (T := TX12) (N := 56) hx hb hU inlX12 hown hK hP mo0 hfo_132 rfl 13 (by decide) (hU _ wd_619) (fun _ h9 => h9) rfl dX12_ruled_197 ?_
                    refine tk_istP hx hb hK hP hD hS 0 ma_2 hfo_133 rfl (vp_in_iff.mpr (by constructor <;> omega)) dX12_ruled_200 (fun H locs hP hD hS => ?_)
                    have hc9 := cl_I (i := x_135) (by omega)
                    obtain ⟨g_136, eqg_136⟩ : ∃ y : Nat → Int32, y = upd g_129 (Int32.toNatClampNeg x_135) v_123 := ⟨_, rfl⟩
                    rw [← eqg_136] at hP hD
                    have hbg_136 : wOK g_136 := by rw [eqg_136]; exact ⟨hbg_129.1.up (fun h1 h2 h3 => by exfalso; omega), hbg_129.2.1.up (fun h1 h2 h3 => by exfalso; omega), hbg_129.2.2.1.up (fun h1 h2 h3 => by exfalso; omega), hbg_129.2.2.2.1.up (fun h1 h2 h3 => by exfalso; omega), hbg_129.2.2.2.2.1.up (fun h1 h2 h3 => by exfalso; omega), hbg_129.2.2.2.2.2.1.up (fun h1 h2 h3 => by exfalso; omega), hbg_129.2.2.2.2.2.2.1.up (fun h1 h2 h3 => by exfalso; omega), hbg_129.2.2.2.2.2.2.2.1.up (fun h1 h2 h3 => by exfalso; omega), hbg_129.2.2.2.2.2.2.2.2.1.up (fun h1 h2 h3 => by exfalso; omega), hbg_129.2.2.2.2.2.2.2.2.2.1.up (fun h1 h2 h3 => by exfalso; omega), hbg_129.2.2.2.2.2.2.2.2.2.2.1.up (fun h1 h2 h3 => by exfalso; omega), hbg_129.2.2.2.2.2.2.2.2.2.2.2.1.up (fun h1 h2 h3 => by exfalso; omega), hbg_129.2.2.2.2.2.2.2.2.2.2.2.2.1.up (fun h1 h2 h3 => by constructor <;> omega), hbg_129.2.2.2.2.2.2.2.2.2.2.2.2.2.1.up (fun h1 h2 h3 => by exfalso; omega), hbg_129.2.2.2.2.2.2.2.2.2.2.2.2.2.2.1.up (fun h1 h2 h3 => by exfalso; omega), hbg_129.2.2.2.2.2.2.2.2.2.2.2.2.2.2.2.up (fun h1 h2 h3 => by exfalso; omega)⟩
                    obtain ⟨f_138, ef_138⟩ : ∃ y : Nat → va_E, y = va_up f_131 a_2 (.inl (cI, 1560, .inl g_136)) := ⟨_, rfl⟩
                    have hP : va_P (dC, dI) vwCl (va_pl L f_138) H := by rw [ef_138]; exact hP
                    have hD : va_D (fun q => q ∈ L) (va_pl L f_138) := by rw [ef_138]; exact hD
                    have hG : GI (okc cI cL cZ cR cG cH L kd) kd L f_138 := by rw [ef_138]; exact hG.set a_2 (mk_576 ka_2 ⟨_, rfl, hbg_136⟩)
                    have hfo_139 : f_138 o0 = .inr (12, [.ref a_1, .ref a_2, .ref a_3, .int v_4, .ref a_5, .int v_6, .int v_118, .int v_119, .int v_120, .int v_10, .int v_11, .int v_121, .int v_122, .int v_123, .int v_124, .ref a_16, .ref a_17, .ref a_18, .ref a_19, .ref a_20, .ref a_21, .ref a_22, .ref a_23, .int v_24, .int v_25, .int v_26, .int v_27, .int v_28, .ref a_29, .int v_30, .ref a_31, .ref a_32, .int v_33, .int v_34, .ref a_35, .int v_36, .ref a_37, .ref a_38, .int v_39, .int v_40, .ref a_41, .ref a_42, .ref a_43, .int v_44, .ref a_45, .ref a_46, .ref a_47, .ref a_48, .ref a_49, .ref a_50, .ref a_51, .ref a_52, .ref a_53, .int v_54, .int v_55, .ref a_56]) := by rw [ef_138, up_ne (kd_ne ka_2 ko0 (by decide))]; exact hfo_132
                    have hfr0 : ∀ b, kd b ≠ 12 → kd b ≠ 576 → f_138 b = f b := fun b q12 q576 => (congrFun ef_138 b).trans ((up_ne (fun e9 => q576 (by rw [e9]; exact ka_2))).trans (hfr0 b q12 q576))
                    have hrA12 : ∀ b, kd b = 12 → ∀ j, fldR (f_138 b) j = fldR (f b) j := fun b kb j => (congrArg (fun x => fldR x j) ((congrFun ef_138 b).trans (up_ne (kd_ne ka_2 kb (by decide))))).trans (hrA12 b kb j)
                    have hfA12 : ∀ b, kd b = 12 → ∀ j, j ≠ 6 → j ≠ 7 → j ≠ 8 → j ≠ 11 → j ≠ 12 → j ≠ 13 → j ≠ 14 → fldI (f_138 b) j = fldI (f b) j := fun b kb j n6 n7 n8 n11 n12 n13 n14 => (congrArg (fun x => fldI x j) ((congrFun ef_138 b).trans (up_ne (kd_ne ka_2 kb (by decide))))).trans (hfA12 b kb j n6 n7 n8 n11 n12 n13 n14)
                    have hT_80 : frel kd 576 7 f_138 a_2 := by rw [ef_138]; exact frel.mk ka_2 up_self (by rw [eqg_136]; exact (hT_80.get hfo_133).up (hbg_129.2.1 16 (by decide) (by decide) (by decide)).2 (by omega) (by omega) (by omega) (fun h9 => by exfalso; omega))
                    have hMm_92 : (∀ z9, fldI (f_138 o0) 6 = some z9 → v_7.toInt ≤ z9.toInt) := by rw [ef_138]; exact (fun z9 h9 => hMm_92 z9 (by rw [up_ne (kd_ne ka_2 ko0 (by decide))] at h9; exact h9))
                    have hfo_140 : f_138 a_2 = .inl (cI, 1560, .inl g_136) := by rw [ef_138]; exact up_self
                    have ql_141 : v_123 = g_136 (Int32.toNatClampNeg x_135) := by rw [eqg_136, pk_us]
                    refine lv_aload_n hx hb dX12_ruled_201 rfl (lv_at hl 5 rfl) ?_
                    refine tk_getP (D := (dC, dI)) (ci := 12) (v := .ref a_2) (C := RX12) (T := TX12) (N := 56) hx hb hU inlX12 hown hK hP mo0 hfo_139 rfl 1 (by decide) (hU _ wd_170) (fun _ h9 => h9) rfl dX12_ruled_202 ?_
                    refine lv_iload hx hb dX12_ruled_205 (lv_at hl 0 rfl) ?_
                    refine lv_iconst (v := 2) hx hb dX12_ruled_207 (by decide) ?_
                    refine lv_iadd hx hb dX12_ruled_208 ?_
                    refine lv_topi (fun x_142 ex_142 => ?_)
                    have hx_142 : x_142.toInt = x_117.toInt + 2 := by rw [ex_142, ad_I (by rw [ti_2]; omega) (by rw [ti_2]; omega), ti_2]
                    have bx_142 : (462 ≤ x_142.toInt ∧ x_142.toInt ≤ 490) := by constructor <;> omega
                    refine lv_iload_n hx hb dX12_ruled_209 rfl (lv_at hl 3 rfl) ?_
                    refine tk_istP hx hb hK hP hD hS 0 ma_2 hfo_140 rfl (vp_in_iff.mpr (by constructor <;> omega)) dX12_ruled_210 (fun H locs hP hD hS => ?_)
                    have hc9 := cl_I (i := x_142) (by omega)
                    obtain ⟨g_143, eqg_143⟩ : ∃ y : Nat → Int32, y = upd g_136 (Int32.toNatClampNeg x_142) x_82 := ⟨_, rfl⟩
                    rw [← eqg_143] at hP hD
                    have hbg_143 : wOK g_143 := by rw [eqg_143]; exact ⟨hbg_136.1.up (fun h1 h2 h3 => by exfalso; omega), hbg_136.2.1.up (fun h1 h2 h3 => by exfalso; omega), hbg_136.2.2.1.up (fun h1 h2 h3 => by exfalso; omega), hbg_136.2.2.2.1.up (fun h1 h2 h3 => by exfalso; omega), hbg_136.2.2.2.2.1.up (fun h1 h2 h3 => by exfalso; omega), hbg_136.2.2.2.2.2.1.up (fun h1 h2 h3 => by exfalso; omega), hbg_136.2.2.2.2.2.2.1.up (fun h1 h2 h3 => by exfalso; omega), hbg_136.2.2.2.2.2.2.2.1.up (fun h1 h2 h3 => by exfalso; omega), hbg_136.2.2.2.2.2.2.2.2.1.up (fun h1 h2 h3 => by exfalso; omega), hbg_136.2.2.2.2.2.2.2.2.2.1.up (fun h1 h2 h3 => by exfalso; omega), hbg_136.2.2.2.2.2.2.2.2.2.2.1.up (fun h1 h2 h3 => by exfalso; omega), hbg_136.2.2.2.2.2.2.2.2.2.2.2.1.up (fun h1 h2 h3 => by exfalso; omega), hbg_136.2.2.2.2.2.2.2.2.2.2.2.2.1.up (fun h1 h2 h3 => by constructor <;> omega), hbg_136.2.2.2.2.2.2.2.2.2.2.2.2.2.1.up (fun h1 h2 h3 => by constructor <;> omega), hbg_136.2.2.2.2.2.2.2.2.2.2.2.2.2.2.1.up (fun h1 h2 h3 => by exfalso; omega), hbg_136.2.2.2.2.2.2.2.2.2.2.2.2.2.2.2.up (fun h1 h2 h3 => by exfalso; omega)⟩
                    obtain ⟨f_145, ef_145⟩ : ∃ y : Nat → va_E, y = va_up f_138 a_2 (.inl (cI, 1560, .inl g_143)) := ⟨_, rfl⟩
                    have hP : va_P (dC, dI) vwCl (va_pl L f_145) H := by rw [ef_145]; exact hP
                    have hD : va_D (fun q => q ∈ L) (va_pl L f_145) := by rw [ef_145]; exact hD
                    have hG : GI (okc cI cL cZ cR cG cH L kd) kd L f_145 := by rw [ef_145]; exact hG.set a_2 (mk_576 ka_2 ⟨_, rfl, hbg_143⟩)
                    have hfo_146 : f_145 o0 = .inr (12, [.ref a_1, .ref a_2, .ref a_3, .int v_4, .ref a_5, .int v_6, .int v_118, .int v_119, .int v_120, .int v_10, .int v_11, .int v_121, .int v_122, .int v_123, .int v_124, .ref a_16, .ref a_17, .ref a_18, .ref a_19, .ref a_20, .ref a_21, .ref a_22, .ref a_23, .int v_24, .int v_25, .int v_26, .int v_27, .int v_28, .ref a_29, .int v_30, .ref a_31, .ref a_32, .int v_33, .int v_34, .ref a_35, .int v_36, .ref a_37, .ref a_38, .int v_39, .int v_40, .ref a_41, .ref a_42, .ref a_43, .int v_44, .ref a_45, .ref a_46, .ref a_47, .ref a_48, .ref a_49, .ref a_50, .ref a_51, .ref a_52, .ref a_53, .int v_54, .int v_55, .ref a_56]) := by rw [ef_145, up_ne (kd_ne ka_2 ko0 (by decide))]; exact hfo_139
                    have hfr0 : ∀ b, kd b ≠ 12 → kd b ≠ 576 → f_145 b = f b := fun b q12 q576 => (congrFun ef_145 b).trans ((up_ne (fun e9 => q576 (by rw [e9]; exact ka_2))).trans (hfr0 b q12 q576))
                    have hrA12 : ∀ b, kd b = 12 → ∀ j, fldR (f_145 b) j = fldR (f b) j := fun b kb j => (congrArg (fun x => fldR x j) ((congrFun ef_145 b).trans (up_ne (kd_ne ka_2 kb (by decide))))).trans (hrA12 b kb j)
                    have hfA12 : ∀ b, kd b = 12 → ∀ j, j ≠ 6 → j ≠ 7 → j ≠ 8 → j ≠ 11 → j ≠ 12 → j ≠ 13 → j ≠ 14 → fldI (f_145 b) j = fldI (f b) j := fun b kb j n6 n7 n8 n11 n12 n13 n14 => (congrArg (fun x => fldI x j) ((congrFun ef_145 b).trans (up_ne (kd_ne ka_2 kb (by decide))))).trans (hfA12 b kb j n6 n7 n8 n11 n12 n13 n14)
                    have hT_80 : frel kd 576 7 f_145 a_2 := by rw [ef_145]; exact frel.mk ka_2 up_self (by rw [eqg_143]; exact (hT_80.get hfo_140).up (hbg_136.2.1 16 (by decide) (by decide) (by decide)).2 (by omega) (by omega) (by omega) (fun h9 => by exfalso; omega))
                    have hMm_92 : (∀ z9, fldI (f_145 o0) 6 = some z9 → v_7.toInt ≤ z9.toInt) := by rw [ef_145]; exact (fun z9 h9 => hMm_92 z9 (by rw [up_ne (kd_ne ka_2 ko0 (by decide))] at h9; exact h9))
                    have hfo_147 : f_145 a_2 = .inl (cI, 1560, .inl g_143) := by rw [ef_145]; exact up_self
                    have ql_148 : x_82 = g_143 (Int32.toNatClampNeg x_142) := by rw [eqg_143, pk_us]
                    refine lv_aload_n hx hb dX12_ruled_211 rfl (lv_at hl 5 rfl) ?_
                    refine tk_getP (D := (dC, dI)) (ci := 12) (v := .ref a_2) (C := RX12) (T := TX12) (N := 56) hx hb hU inlX12 hown hK hP mo0 hfo_146 rfl 1 (by decide) (hU _ wd_170) (fun _ h9 => h9) rfl dX12_ruled_212 ?_
                    refine lv_iload hx hb dX12_ruled_215 (lv_at hl 0 rfl) ?_
                    refine lv_iconst (v := 3) hx hb dX12_ruled_217 (by decide) ?_
                    refine lv_iadd hx hb dX12_ruled_218 ?_
                    refine lv_topi (fun x_149 ex_149 => ?_)
                    have hx_149 : x_149.toInt = x_117.toInt + 3 := by rw [ex_149, ad_I (by rw [ti_3]; omega) (by rw [ti_3]; omega), ti_3]
                    have bx_149 : (463 ≤ x_149.toInt ∧ x_149.toInt ≤ 491) := by constructor <;> omega
                    refine lv_iload_n hx hb dX12_ruled_219 rfl (lv_at hl 2 rfl) ?_
                    refine tk_istP hx hb hK hP hD hS 0 ma_2 hfo_147 rfl (vp_in_iff.mpr (by constructor <;> omega)) dX12_ruled_220 (fun H locs hP hD hS => ?_)
                    have hc9 := cl_I (i := x_149) (by omega)
                    obtain ⟨g_150, eqg_150⟩ : ∃ y : Nat → Int32, y = upd g_143 (Int32.toNatClampNeg x_149) y_112 := ⟨_, rfl⟩
                    rw [← eqg_150] at hP hD
                    have hbg_150 : wOK g_150 := by rw [eqg_150]; exact ⟨hbg_143.1.up (fun h1 h2 h3 => by exfalso; omega), hbg_143.2.1.up (fun h1 h2 h3 => by exfalso; omega), hbg_143.2.2.1.up (fun h1 h2 h3 => by exfalso; omega), hbg_143.2.2.2.1.up (fun h1 h2 h3 => by exfalso; omega), hbg_143.2.2.2.2.1.up (fun h1 h2 h3 => by exfalso; omega), hbg_143.2.2.2.2.2.1.up (fun h1 h2 h3 => by exfalso; omega), hbg_143.2.2.2.2.2.2.1.up (fun h1 h2 h3 => by exfalso; omega), hbg_143.2.2.2.2.2.2.2.1.up (fun h1 h2 h3 => by exfalso; omega), hbg_143.2.2.2.2.2.2.2.2.1.up (fun h1 h2 h3 => by exfalso; omega), hbg_143.2.2.2.2.2.2.2.2.2.1.up (fun h1 h2 h3 => by exfalso; omega), hbg_143.2.2.2.2.2.2.2.2.2.2.1.up (fun h1 h2 h3 => by exfalso; omega), hbg_143.2.2.2.2.2.2.2.2.2.2.2.1.up (fun h1 h2 h3 => by exfalso; omega), hbg_143.2.2.2.2.2.2.2.2.2.2.2.2.1.up (fun h1 h2 h3 => by constructor <;> omega), hbg_143.2.2.2.2.2.2.2.2.2.2.2.2.2.1.up (fun h1 h2 h3 => by exfalso; omega), hbg_143.2.2.2.2.2.2.2.2.2.2.2.2.2.2.1.up (fun h1 h2 h3 => by constructor <;> omega), hbg_143.2.2.2.2.2.2.2.2.2.2.2.2.2.2.2.up (fun h1 h2 h3 => by exfalso; omega)⟩
                    obtain ⟨f_152, ef_152⟩ : ∃ y : Nat → va_E, y = va_up f_145 a_2 (.inl (cI, 1560, .inl g_150)) := ⟨_, rfl⟩
                    have hP : va_P (dC, dI) vwCl (va_pl L f_152) H := by rw [ef_152]; exact hP
                    have hD : va_D (fun q => q ∈ L) (va_pl L f_152) := by rw [ef_152]; exact hD
                    have hG : GI (okc cI cL cZ cR cG cH L kd) kd L f_152 := by rw [ef_152]; exact hG.set a_2 (mk_576 ka_2 ⟨_, rfl, hbg_150⟩)
                    have hfo_153 : f_152 o0 = .inr (12, [.ref a_1, .ref a_2, .ref a_3, .int v_4, .ref a_5, .int v_6, .int v_118, .int v_119, .int v_120, .int v_10, .int v_11, .int v_121, .int v_122, .int v_123, .int v_124, .ref a_16, .ref a_17, .ref a_18, .ref a_19, .ref a_20, .ref a_21, .ref a_22, .ref a_23, .int v_24, .int v_25, .int v_26, .int v_27, .int v_28, .ref a_29, .int v_30, .ref a_31, .ref a_32, .int v_33, .int v_34, .ref a_35, .int v_36, .ref a_37, .ref a_38, .int v_39, .int v_40, .ref a_41, .ref a_42, .ref a_43, .int v_44, .ref a_45, .ref a_46, .ref a_47, .ref a_48, .ref a_49, .ref a_50, .ref a_51, .ref a_52, .ref a_53, .int v_54, .int v_55, .ref a_56]) := by rw [ef_152, up_ne (kd_ne ka_2 ko0 (by decide))]; exact hfo_146
                    have hfr0 : ∀ b, kd b ≠ 12 → kd b ≠ 576 → f_152 b = f b := fun b q12 q576 => (congrFun ef_152 b).trans ((up_ne (fun e9 => q576 (by rw [e9]; exact ka_2))).trans (hfr0 b q12 q576))
                    have hrA12 : ∀ b, kd b = 12 → ∀ j, fldR (f_152 b) j = fldR (f b) j := fun b kb j => (congrArg (fun x => fldR x j) ((congrFun ef_152 b).trans (up_ne (kd_ne ka_2 kb (by decide))))).trans (hrA12 b kb j)
                    have hfA12 : ∀ b, kd b = 12 → ∀ j, j ≠ 6 → j ≠ 7 → j ≠ 8 → j ≠ 11 → j ≠ 12 → j ≠ 13 → j ≠ 14 → fldI (f_152 b) j = fldI (f b) j := fun b kb j n6 n7 n8 n11 n12 n13 n14 => (congrArg (fun x => fldI x j) ((congrFun ef_152 b).trans (up_ne (kd_ne ka_2 kb (by decide))))).trans (hfA12 b kb j n6 n7 n8 n11 n12 n13 n14)
                    have hT_80 : frel kd 576 7 f_152 a_2 := by rw [ef_152]; exact frel.mk ka_2 up_self (by rw [eqg_150]; exact (hT_80.get hfo_147).up (hbg_143.2.1 16 (by decide) (by decide) (by decide)).2 (by omega) (by omega) (by omega) (fun h9 => by exfalso; omega))
                    have hMm_92 : (∀ z9, fldI (f_152 o0) 6 = some z9 → v_7.toInt ≤ z9.toInt) := by rw [ef_152]; exact (fun z9 h9 => hMm_92 z9 (by rw [up_ne (kd_ne ka_2 ko0 (by decide))] at h9; exact h9))
                    have hfo_154 : f_152 a_2 = .inl (cI, 1560, .inl g_150) := by rw [ef_152]; exact up_self
                    have ql_155 : y_112 = g_150 (Int32.toNatClampNeg x_149) := by rw [eqg_150, pk_us]
                    refine lv_aload_n hx hb dX12_ruled_221 rfl (lv_at hl 5 rfl) ?_
                    refine tk_getP (D := (dC, dI)) (ci := 12) (v := .ref a_2) (C := RX12) (T := TX12) (N := 56) hx hb hU inlX12 hown hK hP mo0 hfo_153 rfl 1 (by decide) (hU _ wd_170) (fun _ h9 => h9) rfl dX12_ruled_222 ?_
                    refine lv_bipush (v := 17) hx hb dX12_ruled_225 (by decide) ?_
                    refine lv_dup2_11 hx hb dX12_ruled_227 rfl rfl ?_
                    refine tk_ildP hx hb hK hP 0 ma_2 hfo_154 rfl (vp_in_nI (n := 17) (by decide) (by decide)) dX12_ruled_228 ?_
                    refine lv_topi (fun x_156 ex_156 => ?_)
                    have bx_156 : (0 ≤ x_156.toInt ∧ x_156.toInt ≤ 8) := by rw [ex_156]; exact hbg_150.2.2.1 _ (by decide) (by decide) (by decide)
                    have hF7c_157 := hT_80.get hfo_154
                    have hnrc_158 : (0 ≤ x_156.toInt ∧ x_156.toInt ≤ 7) := by have hq1 := hF7c_157.2.2.2; have hq2 : x_156.toInt = (g_150 17).toInt := (by rw [ex_156]; rfl); constructor <;> omega
                    refine lv_iconst (v := 1) hx hb dX12_ruled_229 (by decide) ?_
                    refine lv_iadd hx hb dX12_ruled_230 ?_
                    refine lv_topi (fun x_159 ex_159 => ?_)
                    have hx_159 : x_159.toInt = x_156.toInt + 1 := by rw [ex_159, ad_I (by rw [ti_1]; omega) (by rw [ti_1]; omega), ti_1]
                    have bx_159 : (1 ≤ x_159.toInt ∧ x_159.toInt ≤ 8) := by constructor <;> omega
                    refine tk_istP hx hb hK hP hD hS 0 ma_2 hfo_154 rfl (vp_in_nI (n := 17) (by decide) (by decide)) dX12_ruled_231 (fun H locs hP hD hS => ?_)
                    have hc9 : ((Int32.toNatClampNeg 17 : Nat) : Int) = 17 := by decide
                    obtain ⟨g_160, eqg_160⟩ : ∃ y : Nat → Int32, y = upd g_150 (Int32.toNatClampNeg 17) x_159 := ⟨_, rfl⟩
                    rw [← eqg_160] at hP hD
                    have hbg_160 : wOK g_160 := by rw [eqg_160]; exact ⟨hbg_150.1.up (fun h1 h2 h3 => by exfalso; omega), hbg_150.2.1.up (fun h1 h2 h3 => by exfalso; omega), hbg_150.2.2.1.up (fun h1 h2 h3 => by constructor <;> omega), hbg_150.2.2.2.1.up (fun h1 h2 h3 => by exfalso; omega), hbg_150.2.2.2.2.1.up (fun h1 h2 h3 => by exfalso; omega), hbg_150.2.2.2.2.2.1.up (fun h1 h2 h3 => by exfalso; omega), hbg_150.2.2.2.2.2.2.1.up (fun h1 h2 h3 => by exfalso; omega), hbg_150.2.2.2.2.2.2.2.1.up (fun h1 h2 h3 => by exfalso; omega), hbg_150.2.2.2.2.2.2.2.2.1.up (fun h1 h2 h3 => by exfalso; omega), hbg_150.2.2.2.2.2.2.2.2.2.1.up (fun h1 h2 h3 => by exfalso; omega), hbg_150.2.2.2.2.2.2.2.2.2.2.1.up (fun h1 h2 h3 => by exfalso; omega), hbg_150.2.2.2.2.2.2.2.2.2.2.2.1.up (fun h1 h2 h3 => by exfalso; omega), hbg_150.2.2.2.2.2.2.2.2.2.2.2.2.1.up (fun h1 h2 h3 => by exfalso; omega), hbg_150.2.2.2.2.2.2.2.2.2.2.2.2.2.1.up (fun h1 h2 h3 => by exfalso; omega), hbg_150.2.2.2.2.2.2.2.2.2.2.2.2.2.2.1.up (fun h1 h2 h3 => by exfalso; omega), hbg_150.2.2.2.2.2.2.2.2.2.2.2.2.2.2.2.up (fun h1 h2 h3 => by exfalso; omega)⟩
                    obtain ⟨f_162, ef_162⟩ : ∃ y : Nat → va_E, y = va_up f_152 a_2 (.inl (cI, 1560, .inl g_160)) := ⟨_, rfl⟩
                    have hP : va_P (dC, dI) vwCl (va_pl L f_162) H := by rw [ef_162]; exact hP
                    have hD : va_D (fun q => q ∈ L) (va_pl L f_162) := by rw [ef_162]; exact hD
                    have hG : GI (okc cI cL cZ cR cG cH L kd) kd L f_162 := by rw [ef_162]; exact hG.set a_2 (mk_576 ka_2 ⟨_, rfl, hbg_160⟩)
                    have hfo_163 : f_162 o0 = .inr (12, [.ref a_1, .ref a_2, .ref a_3, .int v_4, .ref a_5, .int v_6, .int v_118, .int v_119, .int v_120, .int v_10, .int v_11, .int v_121, .int v_122, .int v_123, .int v_124, .ref a_16, .ref a_17, .ref a_18, .ref a_19, .ref a_20, .ref a_21, .ref a_22, .ref a_23, .int v_24, .int v_25, .int v_26, .int v_27, .int v_28, .ref a_29, .int v_30, .ref a_31, .ref a_32, .int v_33, .int v_34, .ref a_35, .int v_36, .ref a_37, .ref a_38, .int v_39, .int v_40, .ref a_41, .ref a_42, .ref a_43, .int v_44, .ref a_45, .ref a_46, .ref a_47, .ref a_48, .ref a_49, .ref a_50, .ref a_51, .ref a_52, .ref a_53, .int v_54, .int v_55, .ref a_56]) := by rw [ef_162, up_ne (kd_ne ka_2 ko0 (by decide))]; exact hfo_153
                    have hfr0 : ∀ b, kd b ≠ 12 → kd b ≠ 576 → f_162 b = f b := fun b q12 q576 => (congrFun ef_162 b).trans ((up_ne (fun e9 => q576 (by rw [e9]; exact ka_2))).trans (hfr0 b q12 q576))
                    have hrA12 : ∀ b, kd b = 12 → ∀ j, fldR (f_162 b) j = fldR (f b) j := fun b kb j => (congrArg (fun x => fldR x j) ((congrFun ef_162 b).trans (up_ne (kd_ne ka_2 kb (by decide))))).trans (hrA12 b kb j)
                    have hfA12 : ∀ b, kd b = 12 → ∀ j, j ≠ 6 → j ≠ 7 → j ≠ 8 → j ≠ 11 → j ≠ 12 → j ≠ 13 → j ≠ 14 → fldI (f_162 b) j = fldI (f b) j := fun b kb j n6 n7 n8 n11 n12 n13 n14 => (congrArg (fun x => fldI x j) ((congrFun ef_162 b).trans (up_ne (kd_ne ka_2 kb (by decide))))).trans (hfA12 b kb j n6 n7 n8 n11 n12 n13 n14)
                    have hMm_92 : (∀ z9, fldI (f_162 o0) 6 = some z9 → v_7.toInt ≤ z9.toInt) := by rw [ef_162]; exact (fun z9 h9 => hMm_92 z9 (by rw [up_ne (kd_ne ka_2 ko0 (by decide))] at h9; exact h9))
                    have hfo_164 : f_162 a_2 = .inl (cI, 1560, .inl g_160) := by rw [ef_162]; exact up_self
                    have ql_165 : x_159 = g_160 (Int32.toNatClampNeg 17) := by rw [eqg_160, pk_us]
                    refine lv_iconst (v := 1) hx hb dX12_ruled_232 (by decide) ?_
                    have hM9 := hMm_92 v_118 (by rw [hfo_163]; rfl)
                    exact W.zret (v := 1) (ty := .boolean) hx hb hr rfl (fun t ht hW => ⟨⟨1, f_162, rfl, ⟨hG, (by decide), hfr0, hrA12, hfA12, (by intro w6 z6 e6 d6; rw [hfo_57] at e6; rw [hfo_163] at d6; obtain rfl := Option.some.inj e6; obtain rfl := Option.some.inj d6; (try rw [ti_1]) <;> omega), (fun d9 h9 => by rw [hfo_163] at h9; obtain rfl := Option.some.inj h9; exact frel.mk ka_2 hfo_164 (by rw [eqg_160]; exact hF7c_157.same (hbg_150.2.1 16 (by decide) (by decide) (by decide)).2 (pk_un (by decide)) (pk_un (by decide)) (fun k9 h9 => pk_un (by have hc8 : Int32.toNatClampNeg 17 = 17 := rfl; omega)) (by rw [show (17 : Nat) = Int32.toNatClampNeg 17 from rfl, pk_us]; omega)))⟩, by rw [ht]; exact hP, va_K.moved hW.alike hK, pl_in hD⟩, hS.F ht⟩) hS.2.2 dX12_ruled_233
                  · skip
                    rw [← Int32.toInt_inj, ti_0] at c_115
                    have hclc_166 : (0 ≤ y_112.toInt ∧ y_112.toInt ≤ 2) := by constructor <;> omega
                    refine lv_aload_n hx hb dX12_ruled_97 rfl (lv_at hl 4 rfl) ?_
                    refine lv_iconst (v := 3) hx hb dX12_ruled_98 (by decide) ?_
                    refine lv_iload_n hx hb dX12_ruled_99 rfl (lv_at hl 3 rfl) ?_
                    refine lv_imul hx hb dX12_ruled_100 ?_
                    refine lv_topi (fun x_167 ex_167 => ?_)
                    have hx_167 : x_167.toInt = 3 * x_61.toInt := by rw [ex_167, ml_I (by rw [ti_3]; omega) (by rw [ti_3]; omega), ti_3]
                    have bx_167 : (0 ≤ x_167.toInt ∧ x_167.toInt ≤ 21) := by constructor <;> omega
                    refine lv_iload_n hx hb dX12_ruled_101 rfl (lv_at hl 1 rfl) ?_
                    refine lv_iadd hx hb dX12_ruled_102 ?_
                    refine lv_topi (fun x_168 ex_168 => ?_)
                    have hx_168 : x_168.toInt = x_167.toInt + y_112.toInt := by rw [ex_168, ad_I (by omega) (by omega)]
                    have bx_168 : (0 ≤ x_168.toInt ∧ x_168.toInt ≤ 23) := by constructor <;> omega
                    obtain ⟨v_169, v_170, v_171, v_172, v_173, v_174, v_175, hfo_176, fa_177⟩ := op12_6_7_8_11_12_13_14 hfo_57 (hG _ mo0) ko0 (hrA12 o0 ko0) (hfA12 o0 ko0)
                    have bv_169 : (0 ≤ v_169.toInt ∧ v_169.toInt ≤ 600) := fa12_6 fa_177
                    have bv_170 : ((-2147483648) ≤ v_170.toInt ∧ v_170.toInt ≤ 2147483647) := ⟨i32_lo _, i32_hi _⟩
                    have bv_171 : ((-2147483648) ≤ v_171.toInt ∧ v_171.toInt ≤ 2147483647) := ⟨i32_lo _, i32_hi _⟩
                    have bv_172 : (0 ≤ v_172.toInt ∧ v_172.toInt ≤ 8) := fa12_11 fa_177
                    have bv_173 : (0 ≤ v_173.toInt ∧ v_173.toInt ≤ 8) := fa12_12 fa_177
                    have bv_174 : (0 ≤ v_174.toInt ∧ v_174.toInt ≤ 8) := fa12_13 fa_177
                    have bv_175 : ((-2147483648) ≤ v_175.toInt ∧ v_175.toInt ≤ 2147483647) := ⟨i32_lo _, i32_hi _⟩
                    refine tk_ViP (As := [.int x_168]) (rest := []) (n := 1) hx hb hml hown hU hN hZ (s_X12_context_k12 l (dC, dI) cI cL cZ cR cG cH Z kd L f_114 hG o0 mo0 ko0 x_168 (by constructor <;> omega) (fun d9 h9 => by rw [hfo_176] at h9; obtain rfl := Option.some.inj h9; exact hT_80)) wd_639 wd_640 wd_641 wd_5 wd_642 (by decide +kernel) ⟨Nat.le_of_ble_eq_true rfl, Nat.le_of_ble_eq_true rfl⟩ hK hP hD hS mo0 hfo_176 12 rfl rfl rfl hl.1 rfl (Nat.le_of_ble_eq_true rfl) dX12_ruled_103 ⟨Nat.le_of_ble_eq_true rfl, Nat.le_of_ble_eq_true rfl⟩ (fun x_178 f_179 H locs hw hP hD hS => ?_)
                    obtain ⟨hG, bx_178, hkc_180, hra_181, hfa_182, hpost_183, hTc_184⟩ := hw
                    have hfr0 : ∀ b, kd b ≠ 12 → kd b ≠ 576 → f_179 b = f b := fun b q12 q576 => (hkc_180 b q12 q576).trans (hfr0 b q12 q576)
                    have hrA12 : ∀ b, kd b = 12 → ∀ j, fldR (f_179 b) j = fldR (f b) j := fun b kb j => (hra_181 b kb j).trans (hrA12 b kb j)
                    have hfA12 : ∀ b, kd b = 12 → ∀ j, j ≠ 6 → j ≠ 7 → j ≠ 8 → j ≠ 11 → j ≠ 12 → j ≠ 13 → j ≠ 14 → fldI (f_179 b) j = fldI (f b) j := fun b kb j n6 n7 n8 n11 n12 n13 n14 => (hfa_182 b kb j n6 n7 n8 n14).trans (hfA12 b kb j n6 n7 n8 n11 n12 n13 n14)
                    obtain ⟨v_186, v_187, v_188, v_189, hfo_190, fa_191⟩ := op12_6_7_8_14 hfo_176 (hG _ mo0) ko0 (hra_181 o0 ko0) (hfa_182 o0 ko0)
                    have bv_186 : (0 ≤ v_186.toInt ∧ v_186.toInt ≤ 600) := fa12_6 fa_191
                    have bv_187 : ((-2147483648) ≤ v_187.toInt ∧ v_187.toInt ≤ 2147483647) := ⟨i32_lo _, i32_hi _⟩
                    have bv_188 : ((-2147483648) ≤ v_188.toInt ∧ v_188.toInt ≤ 2147483647) := ⟨i32_lo _, i32_hi _⟩
                    have bv_189 : ((-2147483648) ≤ v_189.toInt ∧ v_189.toInt ≤ 2147483647) := ⟨i32_lo _, i32_hi _⟩
                    have hqhpost_183 := hpost_183 v_169 v_186 (by rw [hfo_176]; rfl) (by rw [hfo_190]; rfl)
                    have hMm_192 : (∀ z9, fldI (f_179 o0) 6 = some z9 → v_7.toInt ≤ z9.toInt) := fun z9 h9 => by rw [hfo_190] at h9; obtain rfl := Option.some.inj h9; have h8 := hMm_92 v_169 (by rw [hfo_176]; rfl); omega
                    have hT_193 := hTc_184 a_2 (by rw [hfo_190]; rfl)
                    refine lv_if_ne (tgt := 111) hx hb dX12_ruled_106 (by decide) (fun c_194 => ?_) (fun c_194 => ?_)
                    · skip
                      rw [← Int32.toInt_inj, ti_0] at c_194
                      obtain ⟨x_195, ex_195⟩ : ∃ y : Int32, y_112 + 1 = y := ⟨_, rfl⟩
                      have hx_195 : x_195.toInt = y_112.toInt + 1 := by rw [← ex_195, ad_I (by rw [ti_1]; omega) (by rw [ti_1]; omega), ti_1]
                      have bx_195 : (1 ≤ x_195.toInt ∧ x_195.toInt ≤ 3) := by constructor <;> omega
                      refine lv_iinc (v := x_195) (lv' := [(3, .int x_195), (4, .int y_111), (2, .int x_82), (1, .int x_61), (0, .ref o0)]) hx hb dX12_ruled_111 hl (k := 1) rfl ex_195 (by decide) rfl (fun ls hl => ?_)
                      refine lv_aload_n hx hb dX12_ruled_114 rfl (lv_at hl 4 rfl) ?_
                      refine tk_ViP (As := []) (rest := []) (n := 0) hx hb hml hown hU hN hZ (s_X12_sign_k12 l (dC, dI) cI cL cZ cR cG cH Z kd L f_179 hG o0 mo0 ko0) wd_573 wd_574 wd_575 wd_5 wd_576 (by decide +kernel) ⟨Nat.le_of_ble_eq_true rfl, Nat.le_of_ble_eq_true rfl⟩ hK hP hD hS mo0 hfo_190 12 rfl rfl rfl hl.1 rfl (Nat.le_of_ble_eq_true rfl) dX12_ruled_115 ⟨Nat.le_of_ble_eq_true rfl, Nat.le_of_ble_eq_true rfl⟩ (fun x_196 f_197 H locs hw hP hD hS => ?_)
                      obtain ⟨hG, bx_196, hkc_198, hra_199, hfa_200, hpost_201⟩ := hw
                      have hfr0 : ∀ b, kd b ≠ 12 → kd b ≠ 576 → f_197 b = f b := fun b q12 q576 => (hkc_198 b q12).trans (hfr0 b q12 q576)
                      have hrA12 : ∀ b, kd b = 12 → ∀ j, fldR (f_197 b) j = fldR (f b) j := fun b kb j => (hra_199 b kb j).trans (hrA12 b kb j)
                      have hfA12 : ∀ b, kd b = 12 → ∀ j, j ≠ 6 → j ≠ 7 → j ≠ 8 → j ≠ 11 → j ≠ 12 → j ≠ 13 → j ≠ 14 → fldI (f_197 b) j = fldI (f b) j := fun b kb j n6 n7 n8 n11 n12 n13 n14 => (hfa_200 b kb j n6).trans (hfA12 b kb j n6 n7 n8 n11 n12 n13 n14)
                      have hT_193 : frel kd 576 7 f_197 a_2 := hT_193.keep (fun b q => hkc_198 b (by rw [q]; decide))
                      obtain ⟨v_203, hfo_204, fa_205⟩ := op12_6 hfo_190 (hG _ mo0) ko0 (hra_199 o0 ko0) (hfa_200 o0 ko0)
                      have bv_203 : (0 ≤ v_203.toInt ∧ v_203.toInt ≤ 600) := fa12_6 fa_205
                      have hqhpost_201 := hpost_201 v_186 v_203 (by rw [hfo_190]; rfl) (by rw [hfo_204]; rfl)
                      have hMm_206 : (∀ z9, fldI (f_197 o0) 6 = some z9 → v_7.toInt ≤ z9.toInt) := fun z9 h9 => by rw [hfo_204] at h9; obtain rfl := Option.some.inj h9; have h8 := hMm_192 v_186 (by rw [hfo_190]; rfl); omega
                      refine lv_bipush (v := 124) hx hb dX12_ruled_118 (by decide) ?_
                      have hcut_208 : ∀ (y_207 : Int32), (0 ≤ y_207.toInt ∧ y_207.toInt ≤ 1) → (y_207.toInt = 0 ∨ v_203.toInt ≤ 599) → ∀ (ls : Array Slot), lv_has ls 6 [(3, .int x_195), (4, .int y_111), (2, .int x_82), (1, .int x_61), (0, .ref o0)] → W p l e (headSpec (wU yX12_ruled cX12_ruled 6 (some .boolean)) { frames := 7, cells := 0, slots := 0, locals := 150 }).room s m [.ref o0].toArray below meth c H locs 0 0 (MQ below (va_Qi (fun (r : Int32) (f9 : Nat → va_E) => GI (okc cI cL cZ cR cG cH L kd) kd L f9 ∧ (0 ≤ r.toInt ∧ r.toInt ≤ 1) ∧ (∀ b, kd b ≠ 12 → kd b ≠ 576 → f9 b = f b) ∧ (∀ b, kd b = 12 → ∀ j, fldR (f9 b) j = fldR (f b) j) ∧ (∀ b, kd b = 12 → ∀ j, j ≠ 6 → j ≠ 7 → j ≠ 8 → j ≠ 11 → j ≠ 12 → j ≠ 13 → j ≠ 14 → fldI (f9 b) j = fldI (f b) j) ∧ (∀ (w6 z6 : Int32), fldI (f o0) 6 = some w6 → fldI (f9 o0) 6 = some z6 → w6.toInt ≤ z6.toInt) ∧ (∀ d9, fldR (f9 o0) 1 = some d9 → frel kd 576 8 f9 d9)) (qP (dC, dI) cI cL cZ cR cG cH L) (fun q => q ∈ L)) [.ref o0].toArray s 0 0 (fun q => q ∈ L)) (F0 m 128 ls [.int y_207]) := by
                        intro y_207 by_207 hjhcut_208_0 ls hl
                        refine lv_istore (lv' := [(4, .int y_207), (3, .int x_195), (2, .int x_82), (1, .int x_61), (0, .ref o0)]) hx hb dX12_ruled_128 hl (by decide) rfl (fun ls hl => ?_)
                        refine lv_iload hx hb dX12_ruled_130 (lv_at hl 0 rfl) ?_
                        refine lv_if_eq (tgt := 150) hx hb dX12_ruled_132 (by decide) (fun c_209 => ?_) (fun c_209 => ?_)
                        · skip
                          rw [← Int32.toInt_inj, ti_0] at c_209
                          refine lv_iload hx hb dX12_ruled_150 (lv_at hl 0 rfl) ?_
                          refine lv_if_eq (tgt := 92) hx hb dX12_ruled_152 (by decide) (fun c_210 => ?_) (fun c_210 => ?_)
                          · skip
                            rw [← Int32.toInt_inj, ti_0] at c_210
                            exact ih_hloop_110 y_207 (by constructor <;> omega) x_195 (by constructor <;> omega) f_197 hG _ _ hP hS hD hfr0 hrA12 hfA12 hT_193 hMm_206 (by omega) (by omega) ls (lv_sub hl [0, 1, 2, 3, 4] rfl)
                          · skip
                            rw [← Int32.toInt_inj, ti_0] at c_210
                            exfalso
                            omega
                        · skip
                          rw [← Int32.toInt_inj, ti_0] at c_209
                          refine lv_iload_n hx hb dX12_ruled_135 rfl (lv_at hl 1 rfl) ?_
                          refine lv_iconst (v := 3) hx hb dX12_ruled_136 (by decide) ?_
                          refine lv_icmp_ne (tgt := 150) hx hb dX12_ruled_137 (by decide) (fun c_211 => ?_) (fun c_211 => ?_)
                          · skip
                            rw [← Int32.toInt_inj, ti_3] at c_211
                            refine lv_iload hx hb dX12_ruled_150 (lv_at hl 0 rfl) ?_
                            refine lv_if_eq (tgt := 92) hx hb dX12_ruled_152 (by decide) (fun c_212 => ?_) (fun c_212 => ?_)
                            · skip
                              rw [← Int32.toInt_inj, ti_0] at c_212
                              exfalso
                              omega
                            · skip
                              rw [← Int32.toInt_inj, ti_0] at c_212
                              have hclc_213 : (0 ≤ v_203.toInt ∧ v_203.toInt ≤ 599) := by constructor <;> omega
                              refine lv_aload_n hx hb dX12_ruled_155 rfl (lv_at hl 4 rfl) ?_
                              refine lv_dup hx hb dX12_ruled_156 rfl ?_
                              refine tk_getP (D := (dC, dI)) (ci := 12) (v := .int v_203) (C := RX12) (T := TX12) (N := 56) hx hb hU inlX12 hown hK hP mo0 hfo_204 rfl 6 (by decide) (hU _ wd_566) (fun _ h9 => h9) rfl dX12_ruled_157 ?_
                              refine lv_iconst (v := 1) hx hb dX12_ruled_160 (by decide) ?_
                              refine lv_iadd hx hb dX12_ruled_161 ?_
                              refine lv_topi (fun x_214 ex_214 => ?_)
                              have hx_214 : x_214.toInt = v_203.toInt + 1 := by rw [ex_214, ad_I (by rw [ti_1]; omega) (by rw [ti_1]; omega), ti_1]
                              have bx_214 : (1 ≤ x_214.toInt ∧ x_214.toInt ≤ 600) := by constructor <;> omega
                              refine tk_putP (D := (dC, dI)) (ci := 12) (v := .int x_214) (ty := .int) (C := RX12) (T := TX12) (N := 56) hx hb hU inlX12 tyX12 tyX12_ok nmX12 hown hK hP hD hS mo0 hfo_204 rfl 6 (by decide) (hU _ wd_566) (fun _ h9 => h9) rfl (by decide +kernel) rfl rfl (Nat.le_of_ble_eq_true rfl) dX12_ruled_162 (fun H locs hP hD hS => ?_)
                              have fa_215 := fu12_6 (y := x_214) fa_205 (by constructor <;> omega)
                              obtain ⟨f_217, ef_217⟩ : ∃ y : Nat → va_E, y = va_up f_197 o0 (.inr (12, [.ref a_1, .ref a_2, .ref a_3, .int v_4, .ref a_5, .int v_6, .int x_214, .int v_187, .int v_188, .int v_10, .int v_11, .int v_172, .int v_173, .int v_174, .int v_189, .ref a_16, .ref a_17, .ref a_18, .ref a_19, .ref a_20, .ref a_21, .ref a_22, .ref a_23, .int v_24, .int v_25, .int v_26, .int v_27, .int v_28, .ref a_29, .int v_30, .ref a_31, .ref a_32, .int v_33, .int v_34, .ref a_35, .int v_36, .ref a_37, .ref a_38, .int v_39, .int v_40, .ref a_41, .ref a_42, .ref a_43, .int v_44, .ref a_45, .ref a_46, .ref a_47, .ref a_48, .ref a_49, .ref a_50, .ref a_51, .ref a_52, .ref a_53, .int v_54, .int v_55, .ref a_56])) := ⟨_, rfl⟩
                              have hP : va_P (dC, dI) vwCl (va_pl L f_217) H := by rw [ef_217]; exact hP
                              have hD : va_D (fun q => q ∈ L) (va_pl L f_217) := by rw [ef_217]; exact hD
                              have hG : GI (okc cI cL cZ cR cG cH L kd) kd L f_217 := by rw [ef_217]; exact hG.set o0 (mk_12 ko0 (fo12 fa_215))
                              have hfr0 : ∀ b, kd b ≠ 12 → kd b ≠ 576 → f_217 b = f b := fun b q12 q576 => (congrFun ef_217 b).trans ((up_ne (fun e9 => q12 (by rw [e9]; exact ko0))).trans (hfr0 b q12 q576))
                              have hrA12 : ∀ b, kd b = 12 → ∀ j, fldR (f_217 b) j = fldR (f b) j := fun b kb j => ((congrArg (fun x => fldR x j) (congrFun ef_217 b)).trans (fra_up (fun j => by rw [hfo_204]; exact fr_set (k := 6) rfl rfl) j b)).trans (hrA12 b kb j)
                              have hfA12 : ∀ b, kd b = 12 → ∀ j, j ≠ 6 → j ≠ 7 → j ≠ 8 → j ≠ 11 → j ≠ 12 → j ≠ 13 → j ≠ 14 → fldI (f_217 b) j = fldI (f b) j := fun b kb j n6 n7 n8 n11 n12 n13 n14 => ((congrArg (fun x => fldI x j) (congrFun ef_217 b)).trans (fia_up (fun h9 => by rw [hfo_204]; exact fi_set (k := 6) rfl h9) n6 b)).trans (hfA12 b kb j n6 n7 n8 n11 n12 n13 n14)
                              have hT_193 : frel kd 576 7 f_217 a_2 := by rw [ef_217]; exact hT_193.keep (fun b q => up_ne (kd_ne ko0 q (by decide)))
                              have hMm_206 : (∀ z9, fldI (f_217 o0) 6 = some z9 → v_7.toInt ≤ z9.toInt) := by rw [ef_217]; exact (fun z9 h9 => by rw [up_self] at h9; obtain rfl := Option.some.inj h9; have h8 := hMm_206 v_203 (by rw [hfo_204]; rfl); omega)
                              have hfo_218 : f_217 o0 = .inr (12, [.ref a_1, .ref a_2, .ref a_3, .int v_4, .ref a_5, .int v_6, .int x_214, .int v_187, .int v_188, .int v_10, .int v_11, .int v_172, .int v_173, .int v_174, .int v_189, .ref a_16, .ref a_17, .ref a_18, .ref a_19, .ref a_20, .ref a_21, .ref a_22, .ref a_23, .int v_24, .int v_25, .int v_26, .int v_27, .int v_28, .ref a_29, .int v_30, .ref a_31, .ref a_32, .int v_33, .int v_34, .ref a_35, .int v_36, .ref a_37, .ref a_38, .int v_39, .int v_40, .ref a_41, .ref a_42, .ref a_43, .int v_44, .ref a_45, .ref a_46, .ref a_47, .ref a_48, .ref a_49, .ref a_50, .ref a_51, .ref a_52, .ref a_53, .int v_54, .int v_55, .ref a_56]) := by rw [ef_217]; exact up_self
                              refine lv_goto (tgt := 92) hx hb dX12_ruled_165 (by decide) ?_
                              exact ih_hloop_110 y_207 (by constructor <;> omega) x_195 (by constructor <;> omega) f_217 hG _ _ hP hS hD hfr0 hrA12 hfA12 hT_193 hMm_206 (by omega) (by omega) ls (lv_sub hl [0, 1, 2, 3, 4] rfl)
                          · skip
                            rw [← Int32.toInt_inj, ti_3] at c_211
                            refine lv_aload_n hx hb dX12_ruled_140 rfl (lv_at hl 4 rfl) ?_
                            refine lv_iconst (v := 3) hx hb dX12_ruled_141 (by decide) ?_
                            refine lv_aload_n hx hb dX12_ruled_142 rfl (lv_at hl 4 rfl) ?_
                            refine tk_getP (D := (dC, dI)) (ci := 12) (v := .int v_203) (C := RX12) (T := TX12) (N := 56) hx hb hU inlX12 hown hK hP mo0 hfo_204 rfl 6 (by decide) (hU _ wd_566) (fun _ h9 => h9) rfl dX12_ruled_143 ?_
                            refine tk_ViP (As := [.int 3, .int v_203]) (rest := []) (n := 2) hx hb hml hown hU hN hZ (s_X12_bad_k12 l (dC, dI) cI cL cZ cR cG cH Z kd L f_197 hG o0 mo0 ko0 3 v_203) wd_602 wd_603 wd_604 wd_5 wd_605 (by decide +kernel) ⟨Nat.le_of_ble_eq_true rfl, Nat.le_of_ble_eq_true rfl⟩ hK hP hD hS mo0 hfo_204 12 rfl rfl rfl hl.1 rfl (Nat.le_of_ble_eq_true rfl) dX12_ruled_146 ⟨Nat.le_of_ble_eq_true rfl, Nat.le_of_ble_eq_true rfl⟩ (fun x_219 f_220 H locs hw hP hD hS => ?_)
                            obtain ⟨hG, bx_219, hkc_221, hra_222, hfa_223⟩ := hw
                            have hfr0 : ∀ b, kd b ≠ 12 → kd b ≠ 576 → f_220 b = f b := fun b q12 q576 => (hkc_221 b q12).trans (hfr0 b q12 q576)
                            have hrA12 : ∀ b, kd b = 12 → ∀ j, fldR (f_220 b) j = fldR (f b) j := fun b kb j => (hra_222 b kb j).trans (hrA12 b kb j)
                            have hfA12 : ∀ b, kd b = 12 → ∀ j, j ≠ 6 → j ≠ 7 → j ≠ 8 → j ≠ 11 → j ≠ 12 → j ≠ 13 → j ≠ 14 → fldI (f_220 b) j = fldI (f b) j := fun b kb j n6 n7 n8 n11 n12 n13 n14 => (hfa_223 b kb j n7 n8).trans (hfA12 b kb j n6 n7 n8 n11 n12 n13 n14)
                            have hT_193 : frel kd 576 7 f_220 a_2 := hT_193.keep (fun b q => hkc_221 b (by rw [q]; decide))
                            have hMm_206 : (∀ z9, fldI (f_220 o0) 6 = some z9 → v_7.toInt ≤ z9.toInt) := (fun z9 h9 => hMm_206 z9 (by rw [hfa_223 o0 ko0 6 (by decide) (by decide)] at h9; exact h9))
                            obtain ⟨v_225, v_226, hfo_227, fa_228⟩ := op12_7_8 hfo_204 (hG _ mo0) ko0 (hra_222 o0 ko0) (hfa_223 o0 ko0)
                            have bv_225 : ((-2147483648) ≤ v_225.toInt ∧ v_225.toInt ≤ 2147483647) := ⟨i32_lo _, i32_hi _⟩
                            have bv_226 : ((-2147483648) ≤ v_226.toInt ∧ v_226.toInt ≤ 2147483647) := ⟨i32_lo _, i32_hi _⟩
                            have hM9 := hMm_206 v_203 (by rw [hfo_227]; rfl)
                            exact W.zret (v := x_219) (ty := .boolean) hx hb hr (zb_n (by constructor <;> omega)) (fun t ht hW => ⟨⟨x_219, f_220, rfl, ⟨hG, (by constructor <;> omega), hfr0, hrA12, hfA12, (by intro w6 z6 e6 d6; rw [hfo_57] at e6; rw [hfo_227] at d6; obtain rfl := Option.some.inj e6; obtain rfl := Option.some.inj d6; omega), (fun d9 h9 => by rw [hfo_227] at h9; obtain rfl := Option.some.inj h9; exact hT_193.weak)⟩, by rw [ht]; exact hP, va_K.moved hW.alike hK, pl_in hD⟩, hS.F ht⟩) hS.2.2 dX12_ruled_149
                      refine lv_icmp_ne (tgt := 127) hx hb dX12_ruled_120 (by decide) (fun c_229 => ?_) (fun c_229 => ?_)
                      · skip
                        rw [← Int32.toInt_inj, ti_124] at c_229
                        refine lv_iconst (v := 0) hx hb dX12_ruled_127 (by decide) ?_
                        exact hcut_208 0 (by decide) (by (try rw [ti_0]) <;> omega) ls (lv_sub hl [0, 1, 2, 3, 4] rfl)
                      · skip
                        rw [← Int32.toInt_inj, ti_124] at c_229
                        refine lv_iconst (v := 1) hx hb dX12_ruled_123 (by decide) ?_
                        refine lv_goto (tgt := 128) hx hb dX12_ruled_124 (by decide) ?_
                        exact hcut_208 1 (by decide) (by (try rw [ti_1]) <;> omega) ls (lv_sub hl [0, 1, 2, 3, 4] rfl)
                    · skip
                      rw [← Int32.toInt_inj, ti_0] at c_194
                      refine lv_iconst (v := 0) hx hb dX12_ruled_109 (by decide) ?_
                      have hM9 := hMm_192 v_186 (by rw [hfo_190]; rfl)
                      exact W.zret (v := 0) (ty := .boolean) hx hb hr rfl (fun t ht hW => ⟨⟨0, f_179, rfl, ⟨hG, (by decide), hfr0, hrA12, hfA12, (by intro w6 z6 e6 d6; rw [hfo_57] at e6; rw [hfo_190] at d6; obtain rfl := Option.some.inj e6; obtain rfl := Option.some.inj d6; (try rw [ti_0]) <;> omega), (fun d9 h9 => by rw [hfo_190] at h9; obtain rfl := Option.some.inj h9; exact hT_193.weak)⟩, by rw [ht]; exact hP, va_K.moved hW.alike hK, pl_in hD⟩, hS.F ht⟩) hS.2.2 dX12_ruled_110
              exact hloop_110 5 1 (by decide) 0 (by decide) f_102 hG _ _ hP hS hD hfr0 hrA12 hfA12 hT_80 hMm_92 (by (try rw [ti_1]) <;> (try rw [ti_0]) <;> omega) (by (try rw [ti_1]) <;> (try rw [ti_0]) <;> omega) ls hl
        · skip
          rw [← Int32.toInt_inj, ti_0] at c_95
          refine lv_aload_n hx hb dX12_ruled_54 rfl (lv_at hl 2 rfl) ?_
          refine lv_iconst (v := 2) hx hb dX12_ruled_55 (by decide) ?_
          refine lv_aload_n hx hb dX12_ruled_56 rfl (lv_at hl 2 rfl) ?_
          refine tk_getP (D := (dC, dI)) (ci := 12) (v := .int v_89) (C := RX12) (T := TX12) (N := 56) hx hb hU inlX12 hown hK hP mo0 hfo_90 rfl 6 (by decide) (hU _ wd_566) (fun _ h9 => h9) rfl dX12_ruled_57 ?_
          refine tk_ViP (As := [.int 2, .int v_89]) (rest := []) (n := 2) hx hb hml hown hU hN hZ (s_X12_bad_k12 l (dC, dI) cI cL cZ cR cG cH Z kd L f_83 hG o0 mo0 ko0 2 v_89) wd_602 wd_603 wd_604 wd_5 wd_605 (by decide +kernel) ⟨Nat.le_of_ble_eq_true rfl, Nat.le_of_ble_eq_true rfl⟩ hK hP hD hS mo0 hfo_90 12 rfl rfl rfl hl.1 rfl (Nat.le_of_ble_eq_true rfl) dX12_ruled_60 ⟨Nat.le_of_ble_eq_true rfl, Nat.le_of_ble_eq_true rfl⟩ (fun x_230 f_231 H locs hw hP hD hS => ?_)
          obtain ⟨hG, bx_230, hkc_232, hra_233, hfa_234⟩ := hw
          have hfr0 : ∀ b, kd b ≠ 12 → kd b ≠ 576 → f_231 b = f b := fun b q12 q576 => (hkc_232 b q12).trans (hfr0 b q12 q576)
          have hrA12 : ∀ b, kd b = 12 → ∀ j, fldR (f_231 b) j = fldR (f b) j := fun b kb j => (hra_233 b kb j).trans (hrA12 b kb j)
          have hfA12 : ∀ b, kd b = 12 → ∀ j, j ≠ 6 → j ≠ 7 → j ≠ 8 → j ≠ 11 → j ≠ 12 → j ≠ 13 → j ≠ 14 → fldI (f_231 b) j = fldI (f b) j := fun b kb j n6 n7 n8 n11 n12 n13 n14 => (hfa_234 b kb j n7 n8).trans (hfA12 b kb j n6 n7 n8 n11 n12 n13 n14)
          have hT_80 : frel kd 576 7 f_231 a_2 := hT_80.keep (fun b q => hkc_232 b (by rw [q]; decide))
          have hMm_92 : (∀ z9, fldI (f_231 o0) 6 = some z9 → v_7.toInt ≤ z9.toInt) := (fun z9 h9 => hMm_92 z9 (by rw [hfa_234 o0 ko0 6 (by decide) (by decide)] at h9; exact h9))
          obtain ⟨v_236, v_237, hfo_238, fa_239⟩ := op12_7_8 hfo_90 (hG _ mo0) ko0 (hra_233 o0 ko0) (hfa_234 o0 ko0)
          have bv_236 : ((-2147483648) ≤ v_236.toInt ∧ v_236.toInt ≤ 2147483647) := ⟨i32_lo _, i32_hi _⟩
          have bv_237 : ((-2147483648) ≤ v_237.toInt ∧ v_237.toInt ≤ 2147483647) := ⟨i32_lo _, i32_hi _⟩
          have hM9 := hMm_92 v_89 (by rw [hfo_238]; rfl)
          exact W.zret (v := x_230) (ty := .boolean) hx hb hr (zb_n (by constructor <;> omega)) (fun t ht hW => ⟨⟨x_230, f_231, rfl, ⟨hG, (by constructor <;> omega), hfr0, hrA12, hfA12, (by intro w6 z6 e6 d6; rw [hfo_57] at e6; rw [hfo_238] at d6; obtain rfl := Option.some.inj e6; obtain rfl := Option.some.inj d6; omega), (fun d9 h9 => by rw [hfo_238] at h9; obtain rfl := Option.some.inj h9; exact hT_80.weak)⟩, by rw [ht]; exact hP, va_K.moved hW.alike hK, pl_in hD⟩, hS.F ht⟩) hS.2.2 dX12_ruled_63
      · skip
        rw [← Int32.toInt_inj, ti_1] at c_94
        refine lv_iload_n hx hb dX12_ruled_42 rfl (lv_at hl 0 rfl) ?_
        refine lv_iconst (v := 2) hx hb dX12_ruled_43 (by decide) ?_
        refine lv_icmp_ne (tgt := 64) hx hb dX12_ruled_44 (by decide) (fun c_240 => ?_) (fun c_240 => ?_)
        · skip
          rw [← Int32.toInt_inj, ti_2] at c_240
          refine lv_aload_n hx hb dX12_ruled_64 rfl (lv_at hl 2 rfl) ?_
          refine lv_dup hx hb dX12_ruled_65 rfl ?_
          refine tk_getP (D := (dC, dI)) (ci := 12) (v := .int v_89) (C := RX12) (T := TX12) (N := 56) hx hb hU inlX12 hown hK hP mo0 hfo_90 rfl 6 (by decide) (hU _ wd_566) (fun _ h9 => h9) rfl dX12_ruled_66 ?_
          refine lv_iload_n hx hb dX12_ruled_69 rfl (lv_at hl 0 rfl) ?_
          have hcut_242 : ∀ (y_241 : Int32), (2 ≤ y_241.toInt ∧ y_241.toInt ≤ 3) → ((x_82.toInt ≤ 1 ∧ y_241.toInt = 2) ∨ (2 ≤ x_82.toInt ∧ y_241.toInt = 3)) → ∀ (ls : Array Slot), lv_has ls 6 [(2, .int x_82), (1, .int x_61), (0, .ref o0)] → W p l e (headSpec (wU yX12_ruled cX12_ruled 6 (some .boolean)) { frames := 7, cells := 0, slots := 0, locals := 150 }).room s m [.ref o0].toArray below meth c H locs 0 0 (MQ below (va_Qi (fun (r : Int32) (f9 : Nat → va_E) => GI (okc cI cL cZ cR cG cH L kd) kd L f9 ∧ (0 ≤ r.toInt ∧ r.toInt ≤ 1) ∧ (∀ b, kd b ≠ 12 → kd b ≠ 576 → f9 b = f b) ∧ (∀ b, kd b = 12 → ∀ j, fldR (f9 b) j = fldR (f b) j) ∧ (∀ b, kd b = 12 → ∀ j, j ≠ 6 → j ≠ 7 → j ≠ 8 → j ≠ 11 → j ≠ 12 → j ≠ 13 → j ≠ 14 → fldI (f9 b) j = fldI (f b) j) ∧ (∀ (w6 z6 : Int32), fldI (f o0) 6 = some w6 → fldI (f9 o0) 6 = some z6 → w6.toInt ≤ z6.toInt) ∧ (∀ d9, fldR (f9 o0) 1 = some d9 → frel kd 576 8 f9 d9)) (qP (dC, dI) cI cL cZ cR cG cH L) (fun q => q ∈ L)) [.ref o0].toArray s 0 0 (fun q => q ∈ L)) (F0 m 83 ls [.int y_241, .int v_89, .ref o0]) := by
            intro y_241 by_241 hjhcut_242_0 ls hl
            refine lv_iadd hx hb dX12_ruled_83 ?_
            refine lv_topi (fun x_243 ex_243 => ?_)
            have hx_243 : x_243.toInt = v_89.toInt + y_241.toInt := by rw [ex_243, ad_I (by omega) (by omega)]
            have bx_243 : (2 ≤ x_243.toInt ∧ x_243.toInt ≤ 603) := by constructor <;> omega
            have hclc_244 : (0 ≤ x_243.toInt ∧ x_243.toInt ≤ 600) := by constructor <;> omega
            refine tk_putP (D := (dC, dI)) (ci := 12) (v := .int x_243) (ty := .int) (C := RX12) (T := TX12) (N := 56) hx hb hU inlX12 tyX12 tyX12_ok nmX12 hown hK hP hD hS mo0 hfo_90 rfl 6 (by decide) (hU _ wd_566) (fun _ h9 => h9) rfl (by decide +kernel) rfl rfl (Nat.le_of_ble_eq_true rfl) dX12_ruled_84 (fun H locs hP hD hS => ?_)
            have fa_245 := fu12_6 (y := x_243) fa_91 (by constructor <;> omega)
            obtain ⟨f_247, ef_247⟩ : ∃ y : Nat → va_E, y = va_up f_83 o0 (.inr (12, [.ref a_1, .ref a_2, .ref a_3, .int v_4, .ref a_5, .int v_6, .int x_243, .int v_72, .int v_73, .int v_10, .int v_11, .int v_74, .int v_75, .int v_76, .int v_15, .ref a_16, .ref a_17, .ref a_18, .ref a_19, .ref a_20, .ref a_21, .ref a_22, .ref a_23, .int v_24, .int v_25, .int v_26, .int v_27, .int v_28, .ref a_29, .int v_30, .ref a_31, .ref a_32, .int v_33, .int v_34, .ref a_35, .int v_36, .ref a_37, .ref a_38, .int v_39, .int v_40, .ref a_41, .ref a_42, .ref a_43, .int v_44, .ref a_45, .ref a_46, .ref a_47, .ref a_48, .ref a_49, .ref a_50, .ref a_51, .ref a_52, .ref a_53, .int v_54, .int v_55, .ref a_56])) := ⟨_, rfl⟩
            have hP : va_P (dC, dI) vwCl (va_pl L f_247) H := by rw [ef_247]; exact hP
            have hD : va_D (fun q => q ∈ L) (va_pl L f_247) := by rw [ef_247]; exact hD
            have hG : GI (okc cI cL cZ cR cG cH L kd) kd L f_247 := by rw [ef_247]; exact hG.set o0 (mk_12 ko0 (fo12 fa_245))
            have hfr0 : ∀ b, kd b ≠ 12 → kd b ≠ 576 → f_247 b = f b := fun b q12 q576 => (congrFun ef_247 b).trans ((up_ne (fun e9 => q12 (by rw [e9]; exact ko0))).trans (hfr0 b q12 q576))
            have hrA12 : ∀ b, kd b = 12 → ∀ j, fldR (f_247 b) j = fldR (f b) j := fun b kb j => ((congrArg (fun x => fldR x j) (congrFun ef_247 b)).trans (fra_up (fun j => by rw [hfo_90]; exact fr_set (k := 6) rfl rfl) j b)).trans (hrA12 b kb j)
            have hfA12 : ∀ b, kd b = 12 → ∀ j, j ≠ 6 → j ≠ 7 → j ≠ 8 → j ≠ 11 → j ≠ 12 → j ≠ 13 → j ≠ 14 → fldI (f_247 b) j = fldI (f b) j := fun b kb j n6 n7 n8 n11 n12 n13 n14 => ((congrArg (fun x => fldI x j) (congrFun ef_247 b)).trans (fia_up (fun h9 => by rw [hfo_90]; exact fi_set (k := 6) rfl h9) n6 b)).trans (hfA12 b kb j n6 n7 n8 n11 n12 n13 n14)
            have hT_80 : frel kd 576 7 f_247 a_2 := by rw [ef_247]; exact hT_80.keep (fun b q => up_ne (kd_ne ko0 q (by decide)))
            have hMm_92 : (∀ z9, fldI (f_247 o0) 6 = some z9 → v_7.toInt ≤ z9.toInt) := by rw [ef_247]; exact (fun z9 h9 => by rw [up_self] at h9; obtain rfl := Option.some.inj h9; have h8 := hMm_92 v_89 (by rw [hfo_90]; rfl); omega)
            have hfo_248 : f_247 o0 = .inr (12, [.ref a_1, .ref a_2, .ref a_3, .int v_4, .ref a_5, .int v_6, .int x_243, .int v_72, .int v_73, .int v_10, .int v_11, .int v_74, .int v_75, .int v_76, .int v_15, .ref a_16, .ref a_17, .ref a_18, .ref a_19, .ref a_20, .ref a_21, .ref a_22, .ref a_23, .int v_24, .int v_25, .int v_26, .int v_27, .int v_28, .ref a_29, .int v_30, .ref a_31, .ref a_32, .int v_33, .int v_34, .ref a_35, .int v_36, .ref a_37, .ref a_38, .int v_39, .int v_40, .ref a_41, .ref a_42, .ref a_43, .int v_44, .ref a_45, .ref a_46, .ref a_47, .ref a_48, .ref a_49, .ref a_50, .ref a_51, .ref a_52, .ref a_53, .int v_54, .int v_55, .ref a_56]) := by rw [ef_247]; exact up_self
            refine lv_iconst (v := 0) hx hb dX12_ruled_87 (by decide) ?_
            refine lv_istore_n (lv' := [(3, .int 0), (2, .int x_82), (1, .int x_61), (0, .ref o0)]) hx hb dX12_ruled_88 rfl hl (by decide) rfl (fun ls hl => ?_)
            refine lv_iconst (v := 1) hx hb dX12_ruled_89 (by decide) ?_
            refine lv_istore (lv' := [(4, .int 1), (3, .int 0), (2, .int x_82), (1, .int x_61), (0, .ref o0)]) hx hb dX12_ruled_90 hl (by decide) rfl (fun ls hl => ?_)
            have hloop_254 : ∀ (n : Nat), ∀ (y_255 : Int32), (0 ≤ y_255.toInt ∧ y_255.toInt ≤ 1) → ∀ (y_256 : Int32), (0 ≤ y_256.toInt ∧ y_256.toInt ≤ 3) → ∀ (f_258 : Nat → va_E), GI (okc cI cL cZ cR cG cH L kd) kd L f_258 → ∀ (H : Heap) (locs : List Loc), va_P (dC, dI) vwCl (va_pl L f_258) H → va_S (fun q => q ∈ L) s.heap H locs → va_D (fun q => q ∈ L) (va_pl L f_258) → (∀ b, kd b ≠ 12 → kd b ≠ 576 → f_258 b = f b) → (∀ b, kd b = 12 → ∀ j, fldR (f_258 b) j = fldR (f b) j) → (∀ b, kd b = 12 → ∀ j, j ≠ 6 → j ≠ 7 → j ≠ 8 → j ≠ 11 → j ≠ 12 → j ≠ 13 → j ≠ 14 → fldI (f_258 b) j = fldI (f b) j) → frel kd 576 7 f_258 a_2 → (∀ z9, fldI (f_258 o0) 6 = some z9 → v_7.toInt ≤ z9.toInt) → (y_255.toInt = 0 ∨ y_256.toInt ≤ 2) → 4 - y_256.toInt < (n : Int) → ∀ (ls : Array Slot), lv_has ls 6 [(4, .int y_255), (3, .int y_256), (2, .int x_82), (1, .int x_61), (0, .ref o0)] → W p l e (headSpec (wU yX12_ruled cX12_ruled 6 (some .boolean)) { frames := 7, cells := 0, slots := 0, locals := 150 }).room s m [.ref o0].toArray below meth c H locs 0 0 (MQ below (va_Qi (fun (r : Int32) (f9 : Nat → va_E) => GI (okc cI cL cZ cR cG cH L kd) kd L f9 ∧ (0 ≤ r.toInt ∧ r.toInt ≤ 1) ∧ (∀ b, kd b ≠ 12 → kd b ≠ 576 → f9 b = f b) ∧ (∀ b, kd b = 12 → ∀ j, fldR (f9 b) j = fldR (f b) j) ∧ (∀ b, kd b = 12 → ∀ j, j ≠ 6 → j ≠ 7 → j ≠ 8 → j ≠ 11 → j ≠ 12 → j ≠ 13 → j ≠ 14 → fldI (f9 b) j = fldI (f b) j) ∧ (∀ (w6 z6 : Int32), fldI (f o0) 6 = some w6 → fldI (f9 o0) 6 = some z6 → w6.toInt ≤ z6.toInt) ∧ (∀ d9, fldR (f9 o0) 1 = some d9 → frel kd 576 8 f9 d9)) (qP (dC, dI) cI cL cZ cR cG cH L) (fun q => q ∈ L)) [.ref o0].toArray s 0 0 (fun q => q ∈ L)) (F0 m 92 ls []) := by
              intro n
              induction n with
              | zero => intro y_255 by_255 y_256 by_256 f_258 hG H locs hP hS hD hfr0 hrA12 hfA12 hT_80 hMm_92 hrelhloop_254_0 hmuhloop_254 ls hl; exfalso; omega
              | succ n ih_hloop_254 =>
                intro y_255 by_255 y_256 by_256 f_258 hG H locs hP hS hD hfr0 hrA12 hfA12 hT_80 hMm_92 hrelhloop_254_0 hmuhloop_254 ls hl
                refine lv_iload hx hb dX12_ruled_92 (lv_at hl 0 rfl) ?_
                refine lv_if_eq (tgt := 168) hx hb dX12_ruled_94 (by decide) (fun c_259 => ?_) (fun c_259 => ?_)
                · skip
                  rw [← Int32.toInt_inj, ti_0] at c_259
                  refine lv_sipush (v := 460) hx hb dX12_ruled_168 (by decide) ?_
                  refine lv_iconst (v := 4) hx hb dX12_ruled_171 (by decide) ?_
                  refine lv_iload_n hx hb dX12_ruled_172 rfl (lv_at hl 3 rfl) ?_
                  refine lv_imul hx hb dX12_ruled_173 ?_
                  refine lv_topi (fun x_260 ex_260 => ?_)
                  have hx_260 : x_260.toInt = 4 * x_61.toInt := by rw [ex_260, ml_I (by rw [ti_4]; omega) (by rw [ti_4]; omega), ti_4]
                  have bx_260 : (0 ≤ x_260.toInt ∧ x_260.toInt ≤ 28) := by constructor <;> omega
                  refine lv_iadd hx hb dX12_ruled_174 ?_
                  refine lv_topi (fun x_261 ex_261 => ?_)
                  have hx_261 : x_261.toInt = 460 + x_260.toInt := by rw [ex_261, ad_I (by rw [ti_460]; omega) (by rw [ti_460]; omega), ti_460]
                  have bx_261 : (460 ≤ x_261.toInt ∧ x_261.toInt ≤ 488) := by constructor <;> omega
                  refine lv_istore (lv' := [(5, .int x_261), (4, .int y_255), (3, .int y_256), (2, .int x_82), (1, .int x_61), (0, .ref o0)]) hx hb dX12_ruled_175 hl (by decide) rfl (fun ls hl => ?_)
                  refine lv_aload_n hx hb dX12_ruled_177 rfl (lv_at hl 5 rfl) ?_
                  obtain ⟨v_262, v_263, v_264, v_265, v_266, v_267, v_268, hfo_269, fa_270⟩ := op12_6_7_8_11_12_13_14 hfo_57 (hG _ mo0) ko0 (hrA12 o0 ko0) (hfA12 o0 ko0)
                  have bv_262 : (0 ≤ v_262.toInt ∧ v_262.toInt ≤ 600) := fa12_6 fa_270
                  have bv_263 : ((-2147483648) ≤ v_263.toInt ∧ v_263.toInt ≤ 2147483647) := ⟨i32_lo _, i32_hi _⟩
                  have bv_264 : ((-2147483648) ≤ v_264.toInt ∧ v_264.toInt ≤ 2147483647) := ⟨i32_lo _, i32_hi _⟩
                  have bv_265 : (0 ≤ v_265.toInt ∧ v_265.toInt ≤ 8) := fa12_11 fa_270
                  have bv_266 : (0 ≤ v_266.toInt ∧ v_266.toInt ≤ 8) := fa12_12 fa_270
                  have bv_267 : (0 ≤ v_267.toInt ∧ v_267.toInt ≤ 8) := fa12_13 fa_270
                  have bv_268 : ((-2147483648) ≤ v_268.toInt ∧ v_268.toInt ≤ 2147483647) := ⟨i32_lo _, i32_hi _⟩
                  refine tk_getP (D := (dC, dI)) (ci := 12) (v := .ref a_2) (C := RX12) (T := TX12) (N := 56) hx hb hU inlX12 hown hK hP mo0 hfo_269 rfl 1 (by decide) (hU _ wd_170) (fun _ h9 => h9) rfl dX12_ruled_178 ?_
                  refine lv_iload hx hb dX12_ruled_181 (lv_at hl 0 rfl) ?_
                  refine lv_aload_n hx hb dX12_ruled_183 rfl (lv_at hl 5 rfl) ?_
                  refine tk_getP (D := (dC, dI)) (ci := 12) (v := .int v_266) (C := RX12) (T := TX12) (N := 56) hx hb hU inlX12 hown hK hP mo0 hfo_269 rfl 12 (by decide) (hU _ wd_618) (fun _ h9 => h9) rfl dX12_ruled_184 ?_
                  obtain ⟨g_272, hfo_271, hbg_272⟩ := un_576 (hG _ ma_2) ka_2
                  refine tk_istP hx hb hK hP hD hS 0 ma_2 hfo_271 rfl (vp_in_iff.mpr (by constructor <;> omega)) dX12_ruled_187 (fun H locs hP hD hS => ?_)
                  have hc9 := cl_I (i := x_261) (by omega)
                  obtain ⟨g_273, eqg_273⟩ : ∃ y : Nat → Int32, y = upd g_272 (Int32.toNatClampNeg x_261) v_266 := ⟨_, rfl⟩
                  rw [← eqg_273] at hP hD
                  have hbg_273 : wOK g_273 := by rw [eqg_273]; exact ⟨hbg_272.1.up (fun h1 h2 h3 => by exfalso; omega), hbg_272.2.1.up (fun h1 h2 h3 => by exfalso; omega), hbg_272.2.2.1.up (fun h1 h2 h3 => by exfalso; omega), hbg_272.2.2.2.1.up (fun h1 h2 h3 => by exfalso; omega), hbg_272.2.2.2.2.1.up (fun h1 h2 h3 => by exfalso; omega), hbg_272.2.2.2.2.2.1.up (fun h1 h2 h3 => by exfalso; omega), hbg_272.2.2.2.2.2.2.1.up (fun h1 h2 h3 => by exfalso; omega), hbg_272.2.2.2.2.2.2.2.1.up (fun h1 h2 h3 => by exfalso; omega), hbg_272.2.2.2.2.2.2.2.2.1.up (fun h1 h2 h3 => by exfalso; omega), hbg_272.2.2.2.2.2.2.2.2.2.1.up (fun h1 h2 h3 => by exfalso; omega), hbg_272.2.2.2.2.2.2.2.2.2.2.1.up (fun h1 h2 h3 => by exfalso; omega), hbg_272.2.2.2.2.2.2.2.2.2.2.2.1.up (fun h1 h2 h3 => by exfalso; omega), hbg_272.2.2.2.2.2.2.2.2.2.2.2.2.1.up (fun h1 h2 h3 => by constructor <;> omega), hbg_272.2.2.2.2.2.2.2.2.2.2.2.2.2.1.up (fun h1 h2 h3 => by exfalso; omega), hbg_272.2.2.2.2.2.2.2.2.2.2.2.2.2.2.1.up (fun h1 h2 h3 => by exfalso; omega), hbg_272.2.2.2.2.2.2.2.2.2.2.2.2.2.2.2.up (fun h1 h2 h3 => by exfalso; omega)⟩
                  obtain ⟨f_275, ef_275⟩ : ∃ y : Nat → va_E, y = va_up f_258 a_2 (.inl (cI, 1560, .inl g_273)) := ⟨_, rfl⟩
                  have hP : va_P (dC, dI) vwCl (va_pl L f_275) H := by rw [ef_275]; exact hP
                  have hD : va_D (fun q => q ∈ L) (va_pl L f_275) := by rw [ef_275]; exact hD
                  have hG : GI (okc cI cL cZ cR cG cH L kd) kd L f_275 := by rw [ef_275]; exact hG.set a_2 (mk_576 ka_2 ⟨_, rfl, hbg_273⟩)
                  have hfo_276 : f_275 o0 = .inr (12, [.ref a_1, .ref a_2, .ref a_3, .int v_4, .ref a_5, .int v_6, .int v_262, .int v_263, .int v_264, .int v_10, .int v_11, .int v_265, .int v_266, .int v_267, .int v_268, .ref a_16, .ref a_17, .ref a_18, .ref a_19, .ref a_20, .ref a_21, .ref a_22, .ref a_23, .int v_24, .int v_25, .int v_26, .int v_27, .int v_28, .ref a_29, .int v_30, .ref a_31, .ref a_32, .int v_33, .int v_34, .ref a_35, .int v_36, .ref a_37, .ref a_38, .int v_39, .int v_40, .ref a_41, .ref a_42, .ref a_43, .int v_44, .ref a_45, .ref a_46, .ref a_47, .ref a_48, .ref a_49, .ref a_50, .ref a_51, .ref a_52, .ref a_53, .int v_54, .int v_55, .ref a_56]) := by rw [ef_275, up_ne (kd_ne ka_2 ko0 (by decide))]; exact hfo_269
                  have hfr0 : ∀ b, kd b ≠ 12 → kd b ≠ 576 → f_275 b = f b := fun b q12 q576 => (congrFun ef_275 b).trans ((up_ne (fun e9 => q576 (by rw [e9]; exact ka_2))).trans (hfr0 b q12 q576))
                  have hrA12 : ∀ b, kd b = 12 → ∀ j, fldR (f_275 b) j = fldR (f b) j := fun b kb j => (congrArg (fun x => fldR x j) ((congrFun ef_275 b).trans (up_ne (kd_ne ka_2 kb (by decide))))).trans (hrA12 b kb j)
                  have hfA12 : ∀ b, kd b = 12 → ∀ j, j ≠ 6 → j ≠ 7 → j ≠ 8 → j ≠ 11 → j ≠ 12 → j ≠ 13 → j ≠ 14 → fldI (f_275 b) j = fldI (f b) j := fun b kb j n6 n7 n8 n11 n12 n13 n14 => (congrArg (fun x => fldI x j) ((congrFun ef_275 b).trans (up_ne (kd_ne ka_2 kb (by decide))))).trans (hfA12 b kb j n6 n7 n8 n11 n12 n13 n14)
                  have hT_80 : frel kd 576 7 f_275 a_2 := by rw [ef_275]; exact frel.mk ka_2 up_self (by rw [eqg_273]; exact (hT_80.get hfo_271).up (hbg_272.2.1 16 (by decide) (by decide) (by decide)).2 (by omega) (by omega) (by omega) (fun h9 => by exfalso; omega))
                  have hMm_92 : (∀ z9, fldI (f_275 o0) 6 = some z9 → v_7.toInt ≤ z9.toInt) := by rw [ef_275]; exact (fun z9 h9 => hMm_92 z9 (by rw [up_ne (kd_ne ka_2 ko0 (by decide))] at h9; exact h9))
                  have hfo_277 : f_275 a_2 = .inl (cI, 1560, .inl g_273) := by rw [ef_275]; exact up_self
                  have ql_278 : v_266 = g_273 (Int32.toNatClampNeg x_261) := by rw [eqg_273, pk_us]
                  refine lv_aload_n hx hb dX12_ruled_188 rfl (lv_at hl 5 rfl) ?_
                  refine tk_getP (D := (dC, dI)) (ci := 12) (v := .ref a_2) (C := RX12) (T := TX12) (N := 56) hx hb hU inlX12 hown hK hP mo0 hfo_276 rfl 1 (by decide) (hU _ wd_170) (fun _ h9 => h9) rfl dX12_ruled_189 ?_
                  refine lv_iload hx hb dX12_ruled_192 (lv_at hl 0 rfl) ?_
                  refine lv_iconst (v := 1) hx hb dX12_ruled_194 (by decide) ?_
                  refine lv_iadd hx hb dX12_ruled_195 ?_
                  refine lv_topi (fun x_279 ex_279 => ?_)
                  have hx_279 : x_279.toInt = x_261.toInt + 1 := by rw [ex_279, ad_I (by rw [ti_1]; omega) (by rw [ti_1]; omega), ti_1]
                  have bx_279 : (461 ≤ x_279.toInt ∧ x_279.toInt ≤ 489) := by constructor <;> omega
                  refine lv_aload_n hx hb dX12_ruled_196 rfl (lv_at hl 5 rfl) ?_
                  refine tk_getP (D := (dC, dI)) (ci := 12) (v := .int v_267) (C := RX12) (T := TX12) (N := 56) hx hb hU inlX12 hown hK hP mo0 hfo_276 rfl 13 (by decide) (hU _ wd_619) (fun _ h9 => h9) rfl dX12_ruled_197 ?_
                  refine tk_istP hx hb hK hP hD hS 0 ma_2 hfo_277 rfl (vp_in_iff.mpr (by constructor <;> omega)) dX12_ruled_200 (fun H locs hP hD hS => ?_)
                  have hc9 := cl_I (i := x_279) (by omega)
                  obtain ⟨g_280, eqg_280⟩ : ∃ y : Nat → Int32, y = upd g_273 (Int32.toNatClampNeg x_279) v_267 := ⟨_, rfl⟩
                  rw [← eqg_280] at hP hD
                  have hbg_280 : wOK g_280 := by rw [eqg_280]; exact ⟨hbg_273.1.up (fun h1 h2 h3 => by exfalso; omega), hbg_273.2.1.up (fun h1 h2 h3 => by exfalso; omega), hbg_273.2.2.1.up (fun h1 h2 h3 => by exfalso; omega), hbg_273.2.2.2.1.up (fun h1 h2 h3 => by exfalso; omega), hbg_273.2.2.2.2.1.up (fun h1 h2 h3 => by exfalso; omega), hbg_273.2.2.2.2.2.1.up (fun h1 h2 h3 => by exfalso; omega), hbg_273.2.2.2.2.2.2.1.up (fun h1 h2 h3 => by exfalso; omega), hbg_273.2.2.2.2.2.2.2.1.up (fun h1 h2 h3 => by exfalso; omega), hbg_273.2.2.2.2.2.2.2.2.1.up (fun h1 h2 h3 => by exfalso; omega), hbg_273.2.2.2.2.2.2.2.2.2.1.up (fun h1 h2 h3 => by exfalso; omega), hbg_273.2.2.2.2.2.2.2.2.2.2.1.up (fun h1 h2 h3 => by exfalso; omega), hbg_273.2.2.2.2.2.2.2.2.2.2.2.1.up (fun h1 h2 h3 => by exfalso; omega), hbg_273.2.2.2.2.2.2.2.2.2.2.2.2.1.up (fun h1 h2 h3 => by constructor <;> omega), hbg_273.2.2.2.2.2.2.2.2.2.2.2.2.2.1.up (fun h1 h2 h3 => by exfalso; omega), hbg_273.2.2.2.2.2.2.2.2.2.2.2.2.2.2.1.up (fun h1 h2 h3 => by exfalso; omega), hbg_273.2.2.2.2.2.2.2.2.2.2.2.2.2.2.2.up (fun h1 h2 h3 => by exfalso; omega)⟩
                  obtain ⟨f_282, ef_282⟩ : ∃ y : Nat → va_E, y = va_up f_275 a_2 (.inl (cI, 1560, .inl g_280)) := ⟨_, rfl⟩
                  have hP : va_P (dC, dI) vwCl (va_pl L f_282) H := by rw [ef_282]; exact hP
                  have hD : va_D (fun q => q ∈ L) (va_pl L f_282) := by rw [ef_282]; exact hD
                  have hG : GI (okc cI cL cZ cR cG cH L kd) kd L f_282 := by rw [ef_282]; exact hG.set a_2 (mk_576 ka_2 ⟨_, rfl, hbg_280⟩)
                  have hfo_283 : f_282 o0 = .inr (12, [.ref a_1, .ref a_2, .ref a_3, .int v_4, .ref a_5, .int v_6, .int v_262, .int v_263, .int v_264, .int v_10, .int v_11, .int v_265, .int v_266, .int v_267, .int v_268, .ref a_16, .ref a_17, .ref a_18, .ref a_19, .ref a_20, .ref a_21, .ref a_22, .ref a_23, .int v_24, .int v_25, .int v_26, .int v_27, .int v_28, .ref a_29, .int v_30, .ref a_31, .ref a_32, .int v_33, .int v_34, .ref a_35, .int v_36, .ref a_37, .ref a_38, .int v_39, .int v_40, .ref a_41, .ref a_42, .ref a_43, .int v_44, .ref a_45, .ref a_46, .ref a_47, .ref a_48, .ref a_49, .ref a_50, .ref a_51, .ref a_52, .ref a_53, .int v_54, .int v_55, .ref a_56]) := by rw [ef_282, up_ne (kd_ne ka_2 ko0 (by decide))]; exact hfo_276
                  have hfr0 : ∀ b, kd b ≠ 12 → kd b ≠ 576 → f_282 b = f b := fun b q12 q576 => (congrFun ef_282 b).trans ((up_ne (fun e9 => q576 (by rw [e9]; exact ka_2))).trans (hfr0 b q12 q576))
                  have hrA12 : ∀ b, kd b = 12 → ∀ j, fldR (f_282 b) j = fldR (f b) j := fun b kb j => (congrArg (fun x => fldR x j) ((congrFun ef_282 b).trans (up_ne (kd_ne ka_2 kb (by decide))))).trans (hrA12 b kb j)
                  have hfA12 : ∀ b, kd b = 12 → ∀ j, j ≠ 6 → j ≠ 7 → j ≠ 8 → j ≠ 11 → j ≠ 12 → j ≠ 13 → j ≠ 14 → fldI (f_282 b) j = fldI (f b) j := fun b kb j n6 n7 n8 n11 n12 n13 n14 => (congrArg (fun x => fldI x j) ((congrFun ef_282 b).trans (up_ne (kd_ne ka_2 kb (by decide))))).trans (hfA12 b kb j n6 n7 n8 n11 n12 n13 n14)
                  have hT_80 : frel kd 576 7 f_282 a_2 := by rw [ef_282]; exact frel.mk ka_2 up_self (by rw [eqg_280]; exact (hT_80.get hfo_277).up (hbg_273.2.1 16 (by decide) (by decide) (by decide)).2 (by omega) (by omega) (by omega) (fun h9 => by exfalso; omega))
                  have hMm_92 : (∀ z9, fldI (f_282 o0) 6 = some z9 → v_7.toInt ≤ z9.toInt) := by rw [ef_282]; exact (fun z9 h9 => hMm_92 z9 (by rw [up_ne (kd_ne ka_2 ko0 (by decide))] at h9; exact h9))
                  have hfo_284 : f_282 a_2 = .inl (cI, 1560, .inl g_280) := by rw [ef_282]; exact up_self
                  have ql_285 : v_267 = g_280 (Int32.toNatClampNeg x_279) := by rw [eqg_280, pk_us]
                  refine lv_aload_n hx hb dX12_ruled_201 rfl (lv_at hl 5 rfl) ?_
                  refine tk_getP (D := (dC, dI)) (ci := 12) (v := .ref a_2) (C := RX12) (T := TX12) (N := 56) hx hb hU inlX12 hown hK hP mo0 hfo_283 rfl 1 (by decide) (hU _ wd_170) (fun _ h9 => h9) rfl dX12_ruled_202 ?_
                  refine lv_iload hx hb dX12_ruled_205 (lv_at hl 0 rfl) ?_
                  refine lv_iconst (v := 2) hx hb dX12_ruled_207 (by decide) ?_
                  refine lv_iadd hx hb dX12_ruled_208 ?_
                  refine lv_topi (fun x_286 ex_286 => ?_)
                  have hx_286 : x_286.toInt = x_261.toInt + 2 := by rw [ex_286, ad_I (by rw [ti_2]; omega) (by rw [ti_2]; omega), ti_2]
                  have bx_286 : (462 ≤ x_286.toInt ∧ x_286.toInt ≤ 490) := by constructor <;> omega
                  refine lv_iload_n hx hb dX12_ruled_209 rfl (lv_at hl 3 rfl) ?_
                  refine tk_istP hx hb hK hP hD hS 0 ma_2 hfo_284 rfl (vp_in_iff.mpr (by constructor <;> omega)) dX12_ruled_210 (fun H locs hP hD hS => ?_)
                  have hc9 := cl_I (i := x_286) (by omega)
                  obtain ⟨g_287, eqg_287⟩ : ∃ y : Nat → Int32, y = upd g_280 (Int32.toNatClampNeg x_286) x_82 := ⟨_, rfl⟩
                  rw [← eqg_287] at hP hD
                  have hbg_287 : wOK g_287 := by rw [eqg_287]; exact ⟨hbg_280.1.up (fun h1 h2 h3 => by exfalso; omega), hbg_280.2.1.up (fun h1 h2 h3 => by exfalso; omega), hbg_280.2.2.1.up (fun h1 h2 h3 => by exfalso; omega), hbg_280.2.2.2.1.up (fun h1 h2 h3 => by exfalso; omega), hbg_280.2.2.2.2.1.up (fun h1 h2 h3 => by exfalso; omega), hbg_280.2.2.2.2.2.1.up (fun h1 h2 h3 => by exfalso; omega), hbg_280.2.2.2.2.2.2.1.up (fun h1 h2 h3 => by exfalso; omega), hbg_280.2.2.2.2.2.2.2.1.up (fun h1 h2 h3 => by exfalso; omega), hbg_280.2.2.2.2.2.2.2.2.1.up (fun h1 h2 h3 => by exfalso; omega), hbg_280.2.2.2.2.2.2.2.2.2.1.up (fun h1 h2 h3 => by exfalso; omega), hbg_280.2.2.2.2.2.2.2.2.2.2.1.up (fun h1 h2 h3 => by exfalso; omega), hbg_280.2.2.2.2.2.2.2.2.2.2.2.1.up (fun h1 h2 h3 => by exfalso; omega), hbg_280.2.2.2.2.2.2.2.2.2.2.2.2.1.up (fun h1 h2 h3 => by constructor <;> omega), hbg_280.2.2.2.2.2.2.2.2.2.2.2.2.2.1.up (fun h1 h2 h3 => by constructor <;> omega), hbg_280.2.2.2.2.2.2.2.2.2.2.2.2.2.2.1.up (fun h1 h2 h3 => by exfalso; omega), hbg_280.2.2.2.2.2.2.2.2.2.2.2.2.2.2.2.up (fun h1 h2 h3 => by exfalso; omega)⟩
                  obtain ⟨f_289, ef_289⟩ : ∃ y : Nat → va_E, y = va_up f_282 a_2 (.inl (cI, 1560, .inl g_287)) := ⟨_, rfl⟩
                  have hP : va_P (dC, dI) vwCl (va_pl L f_289) H := by rw [ef_289]; exact hP
                  have hD : va_D (fun q => q ∈ L) (va_pl L f_289) := by rw [ef_289]; exact hD
                  have hG : GI (okc cI cL cZ cR cG cH L kd) kd L f_289 := by rw [ef_289]; exact hG.set a_2 (mk_576 ka_2 ⟨_, rfl, hbg_287⟩)
                  have hfo_290 : f_289 o0 = .inr (12, [.ref a_1, .ref a_2, .ref a_3, .int v_4, .ref a_5, .int v_6, .int v_262, .int v_263, .int v_264, .int v_10, .int v_11, .int v_265, .int v_266, .int v_267, .int v_268, .ref a_16, .ref a_17, .ref a_18, .ref a_19, .ref a_20, .ref a_21, .ref a_22, .ref a_23, .int v_24, .int v_25, .int v_26, .int v_27, .int v_28, .ref a_29, .int v_30, .ref a_31, .ref a_32, .int v_33, .int v_34, .ref a_35, .int v_36, .ref a_37, .ref a_38, .int v_39, .int v_40, .ref a_41, .ref a_42, .ref a_43, .int v_44, .ref a_45, .ref a_46, .ref a_47, .ref a_48, .ref a_49, .ref a_50, .ref a_51, .ref a_52, .ref a_53, .int v_54, .int v_55, .ref a_56]) := by rw [ef_289, up_ne (kd_ne ka_2 ko0 (by decide))]; exact hfo_283
                  have hfr0 : ∀ b, kd b ≠ 12 → kd b ≠ 576 → f_289 b = f b := fun b q12 q576 => (congrFun ef_289 b).trans ((up_ne (fun e9 => q576 (by rw [e9]; exact ka_2))).trans (hfr0 b q12 q576))
                  have hrA12 : ∀ b, kd b = 12 → ∀ j, fldR (f_289 b) j = fldR (f b) j := fun b kb j => (congrArg (fun x => fldR x j) ((congrFun ef_289 b).trans (up_ne (kd_ne ka_2 kb (by decide))))).trans (hrA12 b kb j)
                  have hfA12 : ∀ b, kd b = 12 → ∀ j, j ≠ 6 → j ≠ 7 → j ≠ 8 → j ≠ 11 → j ≠ 12 → j ≠ 13 → j ≠ 14 → fldI (f_289 b) j = fldI (f b) j := fun b kb j n6 n7 n8 n11 n12 n13 n14 => (congrArg (fun x => fldI x j) ((congrFun ef_289 b).trans (up_ne (kd_ne ka_2 kb (by decide))))).trans (hfA12 b kb j n6 n7 n8 n11 n12 n13 n14)
                  have hT_80 : frel kd 576 7 f_289 a_2 := by rw [ef_289]; exact frel.mk ka_2 up_self (by rw [eqg_287]; exact (hT_80.get hfo_284).up (hbg_280.2.1 16 (by decide) (by decide) (by decide)).2 (by omega) (by omega) (by omega) (fun h9 => by exfalso; omega))
                  have hMm_92 : (∀ z9, fldI (f_289 o0) 6 = some z9 → v_7.toInt ≤ z9.toInt) := by rw [ef_289]; exact (fun z9 h9 => hMm_92 z9 (by rw [up_ne (kd_ne ka_2 ko0 (by decide))] at h9; exact h9))
                  have hfo_291 : f_289 a_2 = .inl (cI, 1560, .inl g_287) := by rw [ef_289]; exact up_self
                  have ql_292 : x_82 = g_287 (Int32.toNatClampNeg x_286) := by rw [eqg_287, pk_us]
                  refine lv_aload_n hx hb dX12_ruled_211 rfl (lv_at hl 5 rfl) ?_
                  refine tk_getP (D := (dC, dI)) (ci := 12) (v := .ref a_2) (C := RX12) (T := TX12) (N := 56) hx hb hU inlX12 hown hK hP mo0 hfo_290 rfl 1 (by decide) (hU _ wd_170) (fun _ h9 => h9) rfl dX12_ruled_212 ?_
                  refine lv_iload hx hb dX12_ruled_215 (lv_at hl 0 rfl) ?_
                  refine lv_iconst (v := 3) hx hb dX12_ruled_217 (by decide) ?_
                  refine lv_iadd hx hb dX12_ruled_218 ?_
                  refine lv_topi (fun x_293 ex_293 => ?_)
                  have hx_293 : x_293.toInt = x_261.toInt + 3 := by rw [ex_293, ad_I (by rw [ti_3]; omega) (by rw [ti_3]; omega), ti_3]
                  have bx_293 : (463 ≤ x_293.toInt ∧ x_293.toInt ≤ 491) := by constructor <;> omega
                  refine lv_iload_n hx hb dX12_ruled_219 rfl (lv_at hl 2 rfl) ?_
                  refine tk_istP hx hb hK hP hD hS 0 ma_2 hfo_291 rfl (vp_in_iff.mpr (by constructor <;> omega)) dX12_ruled_220 (fun H locs hP hD hS => ?_)
                  have hc9 := cl_I (i := x_293) (by omega)
                  obtain ⟨g_294, eqg_294⟩ : ∃ y : Nat → Int32, y = upd g_287 (Int32.toNatClampNeg x_293) y_256 := ⟨_, rfl⟩
                  rw [← eqg_294] at hP hD
                  have hbg_294 : wOK g_294 := by rw [eqg_294]; exact ⟨hbg_287.1.up (fun h1 h2 h3 => by exfalso; omega), hbg_287.2.1.up (fun h1 h2 h3 => by exfalso; omega), hbg_287.2.2.1.up (fun h1 h2 h3 => by exfalso; omega), hbg_287.2.2.2.1.up (fun h1 h2 h3 => by exfalso; omega), hbg_287.2.2.2.2.1.up (fun h1 h2 h3 => by exfalso; omega), hbg_287.2.2.2.2.2.1.up (fun h1 h2 h3 => by exfalso; omega), hbg_287.2.2.2.2.2.2.1.up (fun h1 h2 h3 => by exfalso; omega), hbg_287.2.2.2.2.2.2.2.1.up (fun h1 h2 h3 => by exfalso; omega), hbg_287.2.2.2.2.2.2.2.2.1.up (fun h1 h2 h3 => by exfalso; omega), hbg_287.2.2.2.2.2.2.2.2.2.1.up (fun h1 h2 h3 => by exfalso; omega), hbg_287.2.2.2.2.2.2.2.2.2.2.1.up (fun h1 h2 h3 => by exfalso; omega), hbg_287.2.2.2.2.2.2.2.2.2.2.2.1.up (fun h1 h2 h3 => by exfalso; omega), hbg_287.2.2.2.2.2.2.2.2.2.2.2.2.1.up (fun h1 h2 h3 => by constructor <;> omega), hbg_287.2.2.2.2.2.2.2.2.2.2.2.2.2.1.up (fun h1 h2 h3 => by exfalso; omega), hbg_287.2.2.2.2.2.2.2.2.2.2.2.2.2.2.1.up (fun h1 h2 h3 => by constructor <;> omega), hbg_287.2.2.2.2.2.2.2.2.2.2.2.2.2.2.2.up (fun h1 h2 h3 => by exfalso; omega)⟩
                  obtain ⟨f_296, ef_296⟩ : ∃ y : Nat → va_E, y = va_up f_289 a_2 (.inl (cI, 1560, .inl g_294)) := ⟨_, rfl⟩
                  have hP : va_P (dC, dI) vwCl (va_pl L f_296) H := by rw [ef_296]; exact hP
                  have hD : va_D (fun q => q ∈ L) (va_pl L f_296) := by rw [ef_296]; exact hD
                  have hG : GI (okc cI cL cZ cR cG cH L kd) kd L f_296 := by rw [ef_296]; exact hG.set a_2 (mk_576 ka_2 ⟨_, rfl, hbg_294⟩)
                  have hfo_297 : f_296 o0 = .inr (12, [.ref a_1, .ref a_2, .ref a_3, .int v_4, .ref a_5, .int v_6, .int v_262, .int v_263, .int v_264, .int v_10, .int v_11, .int v_265, .int v_266, .int v_267, .int v_268, .ref a_16, .ref a_17, .ref a_18, .ref a_19, .ref a_20, .ref a_21, .ref a_22, .ref a_23, .int v_24, .int v_25, .int v_26, .int v_27, .int v_28, .ref a_29, .int v_30, .ref a_31, .ref a_32, .int v_33, .int v_34, .ref a_35, .int v_36, .ref a_37, .ref a_38, .int v_39, .int v_40, .ref a_41, .ref a_42, .ref a_43, .int v_44, .ref a_45, .ref a_46, .ref a_47, .ref a_48, .ref a_49, .ref a_50, .ref a_51, .ref a_52, .ref a_53, .int v_54, .int v_55, .ref a_56]) := by rw [ef_296, up_ne (kd_ne ka_2 ko0 (by decide))]; exact hfo_290
                  have hfr0 : ∀ b, kd b ≠ 12 → kd b ≠ 576 → f_296 b = f b := fun b q12 q576 => (congrFun ef_296 b).trans ((up_ne (fun e9 => q576 (by rw [e9]; exact ka_2))).trans (hfr0 b q12 q576))
                  have hrA12 : ∀ b, kd b = 12 → ∀ j, fldR (f_296 b) j = fldR (f b) j := fun b kb j => (congrArg (fun x => fldR x j) ((congrFun ef_296 b).trans (up_ne (kd_ne ka_2 kb (by decide))))).trans (hrA12 b kb j)
                  have hfA12 : ∀ b, kd b = 12 → ∀ j, j ≠ 6 → j ≠ 7 → j ≠ 8 → j ≠ 11 → j ≠ 12 → j ≠ 13 → j ≠ 14 → fldI (f_296 b) j = fldI (f b) j := fun b kb j n6 n7 n8 n11 n12 n13 n14 => (congrArg (fun x => fldI x j) ((congrFun ef_296 b).trans (up_ne (kd_ne ka_2 kb (by decide))))).trans (hfA12 b kb j n6 n7 n8 n11 n12 n13 n14)
                  have hT_80 : frel kd 576 7 f_296 a_2 := by rw [ef_296]; exact frel.mk ka_2 up_self (by rw [eqg_294]; exact (hT_80.get hfo_291).up (hbg_287.2.1 16 (by decide) (by decide) (by decide)).2 (by omega) (by omega) (by omega) (fun h9 => by exfalso; omega))
                  have hMm_92 : (∀ z9, fldI (f_296 o0) 6 = some z9 → v_7.toInt ≤ z9.toInt) := by rw [ef_296]; exact (fun z9 h9 => hMm_92 z9 (by rw [up_ne (kd_ne ka_2 ko0 (by decide))] at h9; exact h9))
                  have hfo_298 : f_296 a_2 = .inl (cI, 1560, .inl g_294) := by rw [ef_296]; exact up_self
                  have ql_299 : y_256 = g_294 (Int32.toNatClampNeg x_293) := by rw [eqg_294, pk_us]
                  refine lv_aload_n hx hb dX12_ruled_221 rfl (lv_at hl 5 rfl) ?_
                  refine tk_getP (D := (dC, dI)) (ci := 12) (v := .ref a_2) (C := RX12) (T := TX12) (N := 56) hx hb hU inlX12 hown hK hP mo0 hfo_297 rfl 1 (by decide) (hU _ wd_170) (fun _ h9 => h9) rfl dX12_ruled_222 ?_
                  refine lv_bipush (v := 17) hx hb dX12_ruled_225 (by decide) ?_
                  refine lv_dup2_11 hx hb dX12_ruled_227 rfl rfl ?_
                  refine tk_ildP hx hb hK hP 0 ma_2 hfo_298 rfl (vp_in_nI (n := 17) (by decide) (by decide)) dX12_ruled_228 ?_
                  refine lv_topi (fun x_300 ex_300 => ?_)
                  have bx_300 : (0 ≤ x_300.toInt ∧ x_300.toInt ≤ 8) := by rw [ex_300]; exact hbg_294.2.2.1 _ (by decide) (by decide) (by decide)
                  have hF7c_301 := hT_80.get hfo_298
                  have hnrc_302 : (0 ≤ x_300.toInt ∧ x_300.toInt ≤ 7) := by have hq1 := hF7c_301.2.2.2; have hq2 : x_300.toInt = (g_294 17).toInt := (by rw [ex_300]; rfl); constructor <;> omega
                  refine lv_iconst (v := 1) hx hb dX12_ruled_229 (by decide) ?_
                  refine lv_iadd hx hb dX12_ruled_230 ?_
                  refine lv_topi (fun x_303 ex_303 => ?_)
                  have hx_303 : x_303.toInt = x_300.toInt + 1 := by rw [ex_303, ad_I (by rw [ti_1]; omega) (by rw [ti_1]; omega), ti_1]
                  have bx_303 : (1 ≤ x_303.toInt ∧ x_303.toInt ≤ 8) := by constructor <;> omega
                  refine tk_istP hx hb hK hP hD hS 0 ma_2 hfo_298 rfl (vp_in_nI (n := 17) (by decide) (by decide)) dX12_ruled_231 (fun H locs hP hD hS => ?_)
                  have hc9 : ((Int32.toNatClampNeg 17 : Nat) : Int) = 17 := by decide
                  obtain ⟨g_304, eqg_304⟩ : ∃ y : Nat → Int32, y = upd g_294 (Int32.toNatClampNeg 17) x_303 := ⟨_, rfl⟩
                  rw [← eqg_304] at hP hD
                  have hbg_304 : wOK g_304 := by rw [eqg_304]; exact ⟨hbg_294.1.up (fun h1 h2 h3 => by exfalso; omega), hbg_294.2.1.up (fun h1 h2 h3 => by exfalso; omega), hbg_294.2.2.1.up (fun h1 h2 h3 => by constructor <;> omega), hbg_294.2.2.2.1.up (fun h1 h2 h3 => by exfalso; omega), hbg_294.2.2.2.2.1.up (fun h1 h2 h3 => by exfalso; omega), hbg_294.2.2.2.2.2.1.up (fun h1 h2 h3 => by exfalso; omega), hbg_294.2.2.2.2.2.2.1.up (fun h1 h2 h3 => by exfalso; omega), hbg_294.2.2.2.2.2.2.2.1.up (fun h1 h2 h3 => by exfalso; omega), hbg_294.2.2.2.2.2.2.2.2.1.up (fun h1 h2 h3 => by exfalso; omega), hbg_294.2.2.2.2.2.2.2.2.2.1.up (fun h1 h2 h3 => by exfalso; omega), hbg_294.2.2.2.2.2.2.2.2.2.2.1.up (fun h1 h2 h3 => by exfalso; omega), hbg_294.2.2.2.2.2.2.2.2.2.2.2.1.up (fun h1 h2 h3 => by exfalso; omega), hbg_294.2.2.2.2.2.2.2.2.2.2.2.2.1.up (fun h1 h2 h3 => by exfalso; omega), hbg_294.2.2.2.2.2.2.2.2.2.2.2.2.2.1.up (fun h1 h2 h3 => by exfalso; omega), hbg_294.2.2.2.2.2.2.2.2.2.2.2.2.2.2.1.up (fun h1 h2 h3 => by exfalso; omega), hbg_294.2.2.2.2.2.2.2.2.2.2.2.2.2.2.2.up (fun h1 h2 h3 => by exfalso; omega)⟩
                  obtain ⟨f_306, ef_306⟩ : ∃ y : Nat → va_E, y = va_up f_296 a_2 (.inl (cI, 1560, .inl g_304)) := ⟨_, rfl⟩
                  have hP : va_P (dC, dI) vwCl (va_pl L f_306) H := by rw [ef_306]; exact hP
                  have hD : va_D (fun q => q ∈ L) (va_pl L f_306) := by rw [ef_306]; exact hD
                  have hG : GI (okc cI cL cZ cR cG cH L kd) kd L f_306 := by rw [ef_306]; exact hG.set a_2 (mk_576 ka_2 ⟨_, rfl, hbg_304⟩)
                  have hfo_307 : f_306 o0 = .inr (12, [.ref a_1, .ref a_2, .ref a_3, .int v_4, .ref a_5, .int v_6, .int v_262, .int v_263, .int v_264, .int v_10, .int v_11, .int v_265, .int v_266, .int v_267, .int v_268, .ref a_16, .ref a_17, .ref a_18, .ref a_19, .ref a_20, .ref a_21, .ref a_22, .ref a_23, .int v_24, .int v_25, .int v_26, .int v_27, .int v_28, .ref a_29, .int v_30, .ref a_31, .ref a_32, .int v_33, .int v_34, .ref a_35, .int v_36, .ref a_37, .ref a_38, .int v_39, .int v_40, .ref a_41, .ref a_42, .ref a_43, .int v_44, .ref a_45, .ref a_46, .ref a_47, .ref a_48, .ref a_49, .ref a_50, .ref a_51, .ref a_52, .ref a_53, .int v_54, .int v_55, .ref a_56]) := by rw [ef_306, up_ne (kd_ne ka_2 ko0 (by decide))]; exact hfo_297
                  have hfr0 : ∀ b, kd b ≠ 12 → kd b ≠ 576 → f_306 b = f b := fun b q12 q576 => (congrFun ef_306 b).trans ((up_ne (fun e9 => q576 (by rw [e9]; exact ka_2))).trans (hfr0 b q12 q576))
                  have hrA12 : ∀ b, kd b = 12 → ∀ j, fldR (f_306 b) j = fldR (f b) j := fun b kb j => (congrArg (fun x => fldR x j) ((congrFun ef_306 b).trans (up_ne (kd_ne ka_2 kb (by decide))))).trans (hrA12 b kb j)
                  have hfA12 : ∀ b, kd b = 12 → ∀ j, j ≠ 6 → j ≠ 7 → j ≠ 8 → j ≠ 11 → j ≠ 12 → j ≠ 13 → j ≠ 14 → fldI (f_306 b) j = fldI (f b) j := fun b kb j n6 n7 n8 n11 n12 n13 n14 => (congrArg (fun x => fldI x j) ((congrFun ef_306 b).trans (up_ne (kd_ne ka_2 kb (by decide))))).trans (hfA12 b kb j n6 n7 n8 n11 n12 n13 n14)
                  have hMm_92 : (∀ z9, fldI (f_306 o0) 6 = some z9 → v_7.toInt ≤ z9.toInt) := by rw [ef_306]; exact (fun z9 h9 => hMm_92 z9 (by rw [up_ne (kd_ne ka_2 ko0 (by decide))] at h9; exact h9))
                  have hfo_308 : f_306 a_2 = .inl (cI, 1560, .inl g_304) := by rw [ef_306]; exact up_self
                  have ql_309 : x_303 = g_304 (Int32.toNatClampNeg 17) := by rw [eqg_304, pk_us]
                  refine lv_iconst (v := 1) hx hb dX12_ruled_232 (by decide) ?_
                  have hM9 := hMm_92 v_262 (by rw [hfo_307]; rfl)
                  exact W.zret (v := 1) (ty := .boolean) hx hb hr rfl (fun t ht hW => ⟨⟨1, f_306, rfl, ⟨hG, (by decide), hfr0, hrA12, hfA12, (by intro w6 z6 e6 d6; rw [hfo_57] at e6; rw [hfo_307] at d6; obtain rfl := Option.some.inj e6; obtain rfl := Option.some.inj d6; (try rw [ti_1]) <;> omega), (fun d9 h9 => by rw [hfo_307] at h9; obtain rfl := Option.some.inj h9; exact frel.mk ka_2 hfo_308 (by rw [eqg_304]; exact hF7c_301.same (hbg_294.2.1 16 (by decide) (by decide) (by decide)).2 (pk_un (by decide)) (pk_un (by decide)) (fun k9 h9 => pk_un (by have hc8 : Int32.toNatClampNeg 17 = 17 := rfl; omega)) (by rw [show (17 : Nat) = Int32.toNatClampNeg 17 from rfl, pk_us]; omega)))⟩, by rw [ht]; exact hP, va_K.moved hW.alike hK, pl_in hD⟩, hS.F ht⟩) hS.2.2 dX12_ruled_233
                · skip
                  rw [← Int32.toInt_inj, ti_0] at c_259
                  have hclc_310 : (0 ≤ y_256.toInt ∧ y_256.toInt ≤ 2) := by constructor <;> omega
                  refine lv_aload_n hx hb dX12_ruled_97 rfl (lv_at hl 4 rfl) ?_
                  refine lv_iconst (v := 3) hx hb dX12_ruled_98 (by decide) ?_
                  refine lv_iload_n hx hb dX12_ruled_99 rfl (lv_at hl 3 rfl) ?_
                  refine lv_imul hx hb dX12_ruled_100 ?_
                  refine lv_topi (fun x_311 ex_311 => ?_)
                  have hx_311 : x_311.toInt = 3 * x_61.toInt := by rw [ex_311, ml_I (by rw [ti_3]; omega) (by rw [ti_3]; omega), ti_3]
                  have bx_311 : (0 ≤ x_311.toInt ∧ x_311.toInt ≤ 21) := by constructor <;> omega
                  refine lv_iload_n hx hb dX12_ruled_101 rfl (lv_at hl 1 rfl) ?_
                  refine lv_iadd hx hb dX12_ruled_102 ?_
                  refine lv_topi (fun x_312 ex_312 => ?_)
                  have hx_312 : x_312.toInt = x_311.toInt + y_256.toInt := by rw [ex_312, ad_I (by omega) (by omega)]
                  have bx_312 : (0 ≤ x_312.toInt ∧ x_312.toInt ≤ 23) := by constructor <;> omega
                  obtain ⟨v_313, v_314, v_315, v_316, v_317, v_318, v_319, hfo_320, fa_321⟩ := op12_6_7_8_11_12_13_14 hfo_57 (hG _ mo0) ko0 (hrA12 o0 ko0) (hfA12 o0 ko0)
                  have bv_313 : (0 ≤ v_313.toInt ∧ v_313.toInt ≤ 600) := fa12_6 fa_321
                  have bv_314 : ((-2147483648) ≤ v_314.toInt ∧ v_314.toInt ≤ 2147483647) := ⟨i32_lo _, i32_hi _⟩
                  have bv_315 : ((-2147483648) ≤ v_315.toInt ∧ v_315.toInt ≤ 2147483647) := ⟨i32_lo _, i32_hi _⟩
                  have bv_316 : (0 ≤ v_316.toInt ∧ v_316.toInt ≤ 8) := fa12_11 fa_321
                  have bv_317 : (0 ≤ v_317.toInt ∧ v_317.toInt ≤ 8) := fa12_12 fa_321
                  have bv_318 : (0 ≤ v_318.toInt ∧ v_318.toInt ≤ 8) := fa12_13 fa_321
                  have bv_319 : ((-2147483648) ≤ v_319.toInt ∧ v_319.toInt ≤ 2147483647) := ⟨i32_lo _, i32_hi _⟩
                  refine tk_ViP (As := [.int x_312]) (rest := []) (n := 1) hx hb hml hown hU hN hZ (s_X12_context_k12 l (dC, dI) cI cL cZ cR cG cH Z kd L f_258 hG o0 mo0 ko0 x_312 (by constructor <;> omega) (fun d9 h9 => by rw [hfo_320] at h9; obtain rfl := Option.some.inj h9; exact hT_80)) wd_639 wd_640 wd_641 wd_5 wd_642 (by decide +kernel) ⟨Nat.le_of_ble_eq_true rfl, Nat.le_of_ble_eq_true rfl⟩ hK hP hD hS mo0 hfo_320 12 rfl rfl rfl hl.1 rfl (Nat.le_of_ble_eq_true rfl) dX12_ruled_103 ⟨Nat.le_of_ble_eq_true rfl, Nat.le_of_ble_eq_true rfl⟩ (fun x_322 f_323 H locs hw hP hD hS => ?_)
                  obtain ⟨hG, bx_322, hkc_324, hra_325, hfa_326, hpost_327, hTc_328⟩ := hw
                  have hfr0 : ∀ b, kd b ≠ 12 → kd b ≠ 576 → f_323 b = f b := fun b q12 q576 => (hkc_324 b q12 q576).trans (hfr0 b q12 q576)
                  have hrA12 : ∀ b, kd b = 12 → ∀ j, fldR (f_323 b) j = fldR (f b) j := fun b kb j => (hra_325 b kb j).trans (hrA12 b kb j)
                  have hfA12 : ∀ b, kd b = 12 → ∀ j, j ≠ 6 → j ≠ 7 → j ≠ 8 → j ≠ 11 → j ≠ 12 → j ≠ 13 → j ≠ 14 → fldI (f_323 b) j = fldI (f b) j := fun b kb j n6 n7 n8 n11 n12 n13 n14 => (hfa_326 b kb j n6 n7 n8 n14).trans (hfA12 b kb j n6 n7 n8 n11 n12 n13 n14)
                  obtain ⟨v_330, v_331, v_332, v_333, hfo_334, fa_335⟩ := op12_6_7_8_14 hfo_320 (hG _ mo0) ko0 (hra_325 o0 ko0) (hfa_326 o0 ko0)
                  have bv_330 : (0 ≤ v_330.toInt ∧ v_330.toInt ≤ 600) := fa12_6 fa_335
                  have bv_331 : ((-2147483648) ≤ v_331.toInt ∧ v_331.toInt ≤ 2147483647) := ⟨i32_lo _, i32_hi _⟩
                  have bv_332 : ((-2147483648) ≤ v_332.toInt ∧ v_332.toInt ≤ 2147483647) := ⟨i32_lo _, i32_hi _⟩
                  have bv_333 : ((-2147483648) ≤ v_333.toInt ∧ v_333.toInt ≤ 2147483647) := ⟨i32_lo _, i32_hi _⟩
                  have hqhpost_327 := hpost_327 v_313 v_330 (by rw [hfo_320]; rfl) (by rw [hfo_334]; rfl)
                  have hMm_336 : (∀ z9, fldI (f_323 o0) 6 = some z9 → v_7.toInt ≤ z9.toInt) := fun z9 h9 => by rw [hfo_334] at h9; obtain rfl := Option.some.inj h9; have h8 := hMm_92 v_313 (by rw [hfo_320]; rfl); omega
                  have hT_337 := hTc_328 a_2 (by rw [hfo_334]; rfl)
                  refine lv_if_ne (tgt := 111) hx hb dX12_ruled_106 (by decide) (fun c_338 => ?_) (fun c_338 => ?_)
                  · skip
                    rw [← Int32.toInt_inj, ti_0] at c_338
                    obtain ⟨x_339, ex_339⟩ : ∃ y : Int32, y_256 + 1 = y := ⟨_, rfl⟩
                    have hx_339 : x_339.toInt = y_256.toInt + 1 := by rw [← ex_339, ad_I (by rw [ti_1]; omega) (by rw [ti_1]; omega), ti_1]
                    have bx_339 : (1 ≤ x_339.toInt ∧ x_339.toInt ≤ 3) := by constructor <;> omega
                    refine lv_iinc (v := x_339) (lv' := [(3, .int x_339), (4, .int y_255), (2, .int x_82), (1, .int x_61), (0, .ref o0)]) hx hb dX12_ruled_111 hl (k := 1) rfl ex_339 (by decide) rfl (fun ls hl => ?_)
                    refine lv_aload_n hx hb dX12_ruled_114 rfl (lv_at hl 4 rfl) ?_
                    refine tk_ViP (As := []) (rest := []) (n := 0) hx hb hml hown hU hN hZ (s_X12_sign_k12 l (dC, dI) cI cL cZ cR cG cH Z kd L f_323 hG o0 mo0 ko0) wd_573 wd_574 wd_575 wd_5 wd_576 (by decide +kernel) ⟨Nat.le_of_ble_eq_true rfl, Nat.le_of_ble_eq_true rfl⟩ hK hP hD hS mo0 hfo_334 12 rfl rfl rfl hl.1 rfl (Nat.le_of_ble_eq_true rfl) dX12_ruled_115 ⟨Nat.le_of_ble_eq_true rfl, Nat.le_of_ble_eq_true rfl⟩ (fun x_340 f_341 H locs hw hP hD hS => ?_)
                    obtain ⟨hG, bx_340, hkc_342, hra_343, hfa_344, hpost_345⟩ := hw
                    have hfr0 : ∀ b, kd b ≠ 12 → kd b ≠ 576 → f_341 b = f b := fun b q12 q576 => (hkc_342 b q12).trans (hfr0 b q12 q576)
                    have hrA12 : ∀ b, kd b = 12 → ∀ j, fldR (f_341 b) j = fldR (f b) j := fun b kb j => (hra_343 b kb j).trans (hrA12 b kb j)
                    have hfA12 : ∀ b, kd b = 12 → ∀ j, j ≠ 6 → j ≠ 7 → j ≠ 8 → j ≠ 11 → j ≠ 12 → j ≠ 13 → j ≠ 14 → fldI (f_341 b) j = fldI (f b) j := fun b kb j n6 n7 n8 n11 n12 n13 n14 => (hfa_344 b kb j n6).trans (hfA12 b kb j n6 n7 n8 n11 n12 n13 n14)
                    have hT_337 : frel kd 576 7 f_341 a_2 := hT_337.keep (fun b q => hkc_342 b (by rw [q]; decide))
                    obtain ⟨v_347, hfo_348, fa_349⟩ := op12_6 hfo_334 (hG _ mo0) ko0 (hra_343 o0 ko0) (hfa_344 o0 ko0)
                    have bv_347 : (0 ≤ v_347.toInt ∧ v_347.toInt ≤ 600) := fa12_6 fa_349
                    have hqhpost_345 := hpost_345 v_330 v_347 (by rw [hfo_334]; rfl) (by rw [hfo_348]; rfl)
                    have hMm_350 : (∀ z9, fldI (f_341 o0) 6 = some z9 → v_7.toInt ≤ z9.toInt) := fun z9 h9 => by rw [hfo_348] at h9; obtain rfl := Option.some.inj h9; have h8 := hMm_336 v_330 (by rw [hfo_334]; rfl); omega
                    refine lv_bipush (v := 124) hx hb dX12_ruled_118 (by decide) ?_
                    have hcut_352 : ∀ (y_351 : Int32), (0 ≤ y_351.toInt ∧ y_351.toInt ≤ 1) → (y_351.toInt = 0 ∨ v_347.toInt ≤ 599) → ∀ (ls : Array Slot), lv_has ls 6 [(3, .int x_339), (4, .int y_255), (2, .int x_82), (1, .int x_61), (0, .ref o0)] → W p l e (headSpec (wU yX12_ruled cX12_ruled 6 (some .boolean)) { frames := 7, cells := 0, slots := 0, locals := 150 }).room s m [.ref o0].toArray below meth c H locs 0 0 (MQ below (va_Qi (fun (r : Int32) (f9 : Nat → va_E) => GI (okc cI cL cZ cR cG cH L kd) kd L f9 ∧ (0 ≤ r.toInt ∧ r.toInt ≤ 1) ∧ (∀ b, kd b ≠ 12 → kd b ≠ 576 → f9 b = f b) ∧ (∀ b, kd b = 12 → ∀ j, fldR (f9 b) j = fldR (f b) j) ∧ (∀ b, kd b = 12 → ∀ j, j ≠ 6 → j ≠ 7 → j ≠ 8 → j ≠ 11 → j ≠ 12 → j ≠ 13 → j ≠ 14 → fldI (f9 b) j = fldI (f b) j) ∧ (∀ (w6 z6 : Int32), fldI (f o0) 6 = some w6 → fldI (f9 o0) 6 = some z6 → w6.toInt ≤ z6.toInt) ∧ (∀ d9, fldR (f9 o0) 1 = some d9 → frel kd 576 8 f9 d9)) (qP (dC, dI) cI cL cZ cR cG cH L) (fun q => q ∈ L)) [.ref o0].toArray s 0 0 (fun q => q ∈ L)) (F0 m 128 ls [.int y_351]) := by
                      intro y_351 by_351 hjhcut_352_0 ls hl
                      refine lv_istore (lv' := [(4, .int y_351), (3, .int x_339), (2, .int x_82), (1, .int x_61), (0, .ref o0)]) hx hb dX12_ruled_128 hl (by decide) rfl (fun ls hl => ?_)
                      refine lv_iload hx hb dX12_ruled_130 (lv_at hl 0 rfl) ?_
                      refine lv_if_eq (tgt := 150) hx hb dX12_ruled_132 (by decide) (fun c_353 => ?_) (fun c_353 => ?_)
                      · skip
                        rw [← Int32.toInt_inj, ti_0] at c_353
                        refine lv_iload hx hb dX12_ruled_150 (lv_at hl 0 rfl) ?_
                        refine lv_if_eq (tgt := 92) hx hb dX12_ruled_152 (by decide) (fun c_354 => ?_) (fun c_354 => ?_)
                        · skip
                          rw [← Int32.toInt_inj, ti_0] at c_354
                          exact ih_hloop_254 y_351 (by constructor <;> omega) x_339 (by constructor <;> omega) f_341 hG _ _ hP hS hD hfr0 hrA12 hfA12 hT_337 hMm_350 (by omega) (by omega) ls (lv_sub hl [0, 1, 2, 3, 4] rfl)
                        · skip
                          rw [← Int32.toInt_inj, ti_0] at c_354
                          exfalso
                          omega
                      · skip
                        rw [← Int32.toInt_inj, ti_0] at c_353
                        refine lv_iload_n hx hb dX12_ruled_135 rfl (lv_at hl 1 rfl) ?_
                        refine lv_iconst (v := 3) hx hb dX12_ruled_136 (by decide) ?_
                        refine lv_icmp_ne (tgt := 150) hx hb dX12_ruled_137 (by decide) (fun c_355 => ?_) (fun c_355 => ?_)
                        · skip
                          rw [← Int32.toInt_inj, ti_3] at c_355
                          refine lv_iload hx hb dX12_ruled_150 (lv_at hl 0 rfl) ?_
                          refine lv_if_eq (tgt := 92) hx hb dX12_ruled_152 (by decide) (fun c_356 => ?_) (fun c_356 => ?_)
                          · skip
                            rw [← Int32.toInt_inj, ti_0] at c_356
                            exfalso
                            omega
                          · skip
                            rw [← Int32.toInt_inj, ti_0] at c_356
                            have hclc_357 : (0 ≤ v_347.toInt ∧ v_347.toInt ≤ 599) := by constructor <;> omega
                            refine lv_aload_n hx hb dX12_ruled_155 rfl (lv_at hl 4 rfl) ?_
                            refine lv_dup hx hb dX12_ruled_156 rfl ?_
                            refine tk_getP (D := (dC, dI)) (ci := 12) (v := .int v_347) (C := RX12) (T := TX12) (N := 56) hx hb hU inlX12 hown hK hP mo0 hfo_348 rfl 6 (by decide) (hU _ wd_566) (fun _ h9 => h9) rfl dX12_ruled_157 ?_
                            refine lv_iconst (v := 1) hx hb dX12_ruled_160 (by decide) ?_
                            refine lv_iadd hx hb dX12_ruled_161 ?_
                            refine lv_topi (fun x_358 ex_358 => ?_)
                            have hx_358 : x_358.toInt = v_347.toInt + 1 := by rw [ex_358, ad_I (by rw [ti_1]; omega) (by rw [ti_1]; omega), ti_1]
                            have bx_358 : (1 ≤ x_358.toInt ∧ x_358.toInt ≤ 600) := by constructor <;> omega
                            refine tk_putP (D := (dC, dI)) (ci := 12) (v := .int x_358) (ty := .int) (C := RX12) (T := TX12) (N := 56) hx hb hU inlX12 tyX12 tyX12_ok nmX12 hown hK hP hD hS mo0 hfo_348 rfl 6 (by decide) (hU _ wd_566) (fun _ h9 => h9) rfl (by decide +kernel) rfl rfl (Nat.le_of_ble_eq_true rfl) dX12_ruled_162 (fun H locs hP hD hS => ?_)
                            have fa_359 := fu12_6 (y := x_358) fa_349 (by constructor <;> omega)
                            obtain ⟨f_361, ef_361⟩ : ∃ y : Nat → va_E, y = va_up f_341 o0 (.inr (12, [.ref a_1, .ref a_2, .ref a_3, .int v_4, .ref a_5, .int v_6, .int x_358, .int v_331, .int v_332, .int v_10, .int v_11, .int v_316, .int v_317, .int v_318, .int v_333, .ref a_16, .ref a_17, .ref a_18, .ref a_19, .ref a_20, .ref a_21, .ref a_22, .ref a_23, .int v_24, .int v_25, .int v_26, .int v_27, .int v_28, .ref a_29, .int v_30, .ref a_31, .ref a_32, .int v_33, .int v_34, .ref a_35, .int v_36, .ref a_37, .ref a_38, .int v_39, .int v_40, .ref a_41, .ref a_42, .ref a_43, .int v_44, .ref a_45, .ref a_46, .ref a_47, .ref a_48, .ref a_49, .ref a_50, .ref a_51, .ref a_52, .ref a_53, .int v_54, .int v_55, .ref a_56])) := ⟨_, rfl⟩
                            have hP : va_P (dC, dI) vwCl (va_pl L f_361) H := by rw [ef_361]; exact hP
                            have hD : va_D (fun q => q ∈ L) (va_pl L f_361) := by rw [ef_361]; exact hD
                            have hG : GI (okc cI cL cZ cR cG cH L kd) kd L f_361 := by rw [ef_361]; exact hG.set o0 (mk_12 ko0 (fo12 fa_359))
                            have hfr0 : ∀ b, kd b ≠ 12 → kd b ≠ 576 → f_361 b = f b := fun b q12 q576 => (congrFun ef_361 b).trans ((up_ne (fun e9 => q12 (by rw [e9]; exact ko0))).trans (hfr0 b q12 q576))
                            have hrA12 : ∀ b, kd b = 12 → ∀ j, fldR (f_361 b) j = fldR (f b) j := fun b kb j => ((congrArg (fun x => fldR x j) (congrFun ef_361 b)).trans (fra_up (fun j => by rw [hfo_348]; exact fr_set (k := 6) rfl rfl) j b)).trans (hrA12 b kb j)
                            have hfA12 : ∀ b, kd b = 12 → ∀ j, j ≠ 6 → j ≠ 7 → j ≠ 8 → j ≠ 11 → j ≠ 12 → j ≠ 13 → j ≠ 14 → fldI (f_361 b) j = fldI (f b) j := fun b kb j n6 n7 n8 n11 n12 n13 n14 => ((congrArg (fun x => fldI x j) (congrFun ef_361 b)).trans (fia_up (fun h9 => by rw [hfo_348]; exact fi_set (k := 6) rfl h9) n6 b)).trans (hfA12 b kb j n6 n7 n8 n11 n12 n13 n14)
                            have hT_337 : frel kd 576 7 f_361 a_2 := by rw [ef_361]; exact hT_337.keep (fun b q => up_ne (kd_ne ko0 q (by decide)))
                            have hMm_350 : (∀ z9, fldI (f_361 o0) 6 = some z9 → v_7.toInt ≤ z9.toInt) := by rw [ef_361]; exact (fun z9 h9 => by rw [up_self] at h9; obtain rfl := Option.some.inj h9; have h8 := hMm_350 v_347 (by rw [hfo_348]; rfl); omega)
                            have hfo_362 : f_361 o0 = .inr (12, [.ref a_1, .ref a_2, .ref a_3, .int v_4, .ref a_5, .int v_6, .int x_358, .int v_331, .int v_332, .int v_10, .int v_11, .int v_316, .int v_317, .int v_318, .int v_333, .ref a_16, .ref a_17, .ref a_18, .ref a_19, .ref a_20, .ref a_21, .ref a_22, .ref a_23, .int v_24, .int v_25, .int v_26, .int v_27, .int v_28, .ref a_29, .int v_30, .ref a_31, .ref a_32, .int v_33, .int v_34, .ref a_35, .int v_36, .ref a_37, .ref a_38, .int v_39, .int v_40, .ref a_41, .ref a_42, .ref a_43, .int v_44, .ref a_45, .ref a_46, .ref a_47, .ref a_48, .ref a_49, .ref a_50, .ref a_51, .ref a_52, .ref a_53, .int v_54, .int v_55, .ref a_56]) := by rw [ef_361]; exact up_self
                            refine lv_goto (tgt := 92) hx hb dX12_ruled_165 (by decide) ?_
                            exact ih_hloop_254 y_351 (by constructor <;> omega) x_339 (by constructor <;> omega) f_361 hG _ _ hP hS hD hfr0 hrA12 hfA12 hT_337 hMm_350 (by omega) (by omega) ls (lv_sub hl [0, 1, 2, 3, 4] rfl)
                        · skip
                          rw [← Int32.toInt_inj, ti_3] at c_355
                          refine lv_aload_n hx hb dX12_ruled_140 rfl (lv_at hl 4 rfl) ?_
                          refine lv_iconst (v := 3) hx hb dX12_ruled_141 (by decide) ?_
                          refine lv_aload_n hx hb dX12_ruled_142 rfl (lv_at hl 4 rfl) ?_
                          refine tk_getP (D := (dC, dI)) (ci := 12) (v := .int v_347) (C := RX12) (T := TX12) (N := 56) hx hb hU inlX12 hown hK hP mo0 hfo_348 rfl 6 (by decide) (hU _ wd_566) (fun _ h9 => h9) rfl dX12_ruled_143 ?_
                          refine tk_ViP (As := [.int 3, .int v_347]) (rest := []) (n := 2) hx hb hml hown hU hN hZ (s_X12_bad_k12 l (dC, dI) cI cL cZ cR cG cH Z kd L f_341 hG o0 mo0 ko0 3 v_347) wd_602 wd_603 wd_604 wd_5 wd_605 (by decide +kernel) ⟨Nat.le_of_ble_eq_true rfl, Nat.le_of_ble_eq_true rfl⟩ hK hP hD hS mo0 hfo_348 12 rfl rfl rfl hl.1 rfl (Nat.le_of_ble_eq_true rfl) dX12_ruled_146 ⟨Nat.le_of_ble_eq_true rfl, Nat.le_of_ble_eq_true rfl⟩ (fun x_363 f_364 H locs hw hP hD hS => ?_)
                          obtain ⟨hG, bx_363, hkc_365, hra_366, hfa_367⟩ := hw
                          have hfr0 : ∀ b, kd b ≠ 12 → kd b ≠ 576 → f_364 b = f b := fun b q12 q576 => (hkc_365 b q12).trans (hfr0 b q12 q576)
                          have hrA12 : ∀ b, kd b = 12 → ∀ j, fldR (f_364 b) j = fldR (f b) j := fun b kb j => (hra_366 b kb j).trans (hrA12 b kb j)
                          have hfA12 : ∀ b, kd b = 12 → ∀ j, j ≠ 6 → j ≠ 7 → j ≠ 8 → j ≠ 11 → j ≠ 12 → j ≠ 13 → j ≠ 14 → fldI (f_364 b) j = fldI (f b) j := fun b kb j n6 n7 n8 n11 n12 n13 n14 => (hfa_367 b kb j n7 n8).trans (hfA12 b kb j n6 n7 n8 n11 n12 n13 n14)
                          have hT_337 : frel kd 576 7 f_364 a_2 := hT_337.keep (fun b q => hkc_365 b (by rw [q]; decide))
                          have hMm_350 : (∀ z9, fldI (f_364 o0) 6 = some z9 → v_7.toInt ≤ z9.toInt) := (fun z9 h9 => hMm_350 z9 (by rw [hfa_367 o0 ko0 6 (by decide) (by decide)] at h9; exact h9))
                          obtain ⟨v_369, v_370, hfo_371, fa_372⟩ := op12_7_8 hfo_348 (hG _ mo0) ko0 (hra_366 o0 ko0) (hfa_367 o0 ko0)
                          have bv_369 : ((-2147483648) ≤ v_369.toInt ∧ v_369.toInt ≤ 2147483647) := ⟨i32_lo _, i32_hi _⟩
                          have bv_370 : ((-2147483648) ≤ v_370.toInt ∧ v_370.toInt ≤ 2147483647) := ⟨i32_lo _, i32_hi _⟩
                          have hM9 := hMm_350 v_347 (by rw [hfo_371]; rfl)
                          exact W.zret (v := x_363) (ty := .boolean) hx hb hr (zb_n (by constructor <;> omega)) (fun t ht hW => ⟨⟨x_363, f_364, rfl, ⟨hG, (by constructor <;> omega), hfr0, hrA12, hfA12, (by intro w6 z6 e6 d6; rw [hfo_57] at e6; rw [hfo_371] at d6; obtain rfl := Option.some.inj e6; obtain rfl := Option.some.inj d6; omega), (fun d9 h9 => by rw [hfo_371] at h9; obtain rfl := Option.some.inj h9; exact hT_337.weak)⟩, by rw [ht]; exact hP, va_K.moved hW.alike hK, pl_in hD⟩, hS.F ht⟩) hS.2.2 dX12_ruled_149
                    refine lv_icmp_ne (tgt := 127) hx hb dX12_ruled_120 (by decide) (fun c_373 => ?_) (fun c_373 => ?_)
                    · skip
                      rw [← Int32.toInt_inj, ti_124] at c_373
                      refine lv_iconst (v := 0) hx hb dX12_ruled_127 (by decide) ?_
                      exact hcut_352 0 (by decide) (by (try rw [ti_0]) <;> omega) ls (lv_sub hl [0, 1, 2, 3, 4] rfl)
                    · skip
                      rw [← Int32.toInt_inj, ti_124] at c_373
                      refine lv_iconst (v := 1) hx hb dX12_ruled_123 (by decide) ?_
                      refine lv_goto (tgt := 128) hx hb dX12_ruled_124 (by decide) ?_
                      exact hcut_352 1 (by decide) (by (try rw [ti_1]) <;> omega) ls (lv_sub hl [0, 1, 2, 3, 4] rfl)
                  · skip
                    rw [← Int32.toInt_inj, ti_0] at c_338
                    refine lv_iconst (v := 0) hx hb dX12_ruled_109 (by decide) ?_
                    have hM9 := hMm_336 v_330 (by rw [hfo_334]; rfl)
                    exact W.zret (v := 0) (ty := .boolean) hx hb hr rfl (fun t ht hW => ⟨⟨0, f_323, rfl, ⟨hG, (by decide), hfr0, hrA12, hfA12, (by intro w6 z6 e6 d6; rw [hfo_57] at e6; rw [hfo_334] at d6; obtain rfl := Option.some.inj e6; obtain rfl := Option.some.inj d6; (try rw [ti_0]) <;> omega), (fun d9 h9 => by rw [hfo_334] at h9; obtain rfl := Option.some.inj h9; exact hT_337.weak)⟩, by rw [ht]; exact hP, va_K.moved hW.alike hK, pl_in hD⟩, hS.F ht⟩) hS.2.2 dX12_ruled_110
            exact hloop_254 5 1 (by decide) 0 (by decide) f_247 hG _ _ hP hS hD hfr0 hrA12 hfA12 hT_80 hMm_92 (by (try rw [ti_1]) <;> (try rw [ti_0]) <;> omega) (by (try rw [ti_1]) <;> (try rw [ti_0]) <;> omega) ls hl
          refine lv_if_eq (tgt := 78) hx hb dX12_ruled_70 (by decide) (fun c_374 => ?_) (fun c_374 => ?_)
          · skip
            rw [← Int32.toInt_inj, ti_0] at c_374
            refine lv_iconst (v := 2) hx hb dX12_ruled_78 (by decide) ?_
            refine lv_goto (tgt := 83) hx hb dX12_ruled_79 (by decide) ?_
            exact hcut_242 2 (by decide) (by (try rw [ti_2]) <;> omega) ls (lv_sub hl [0, 1, 2] rfl)
          · skip
            rw [← Int32.toInt_inj, ti_0] at c_374
            refine lv_iload_n hx hb dX12_ruled_73 rfl (lv_at hl 0 rfl) ?_
            refine lv_iconst (v := 1) hx hb dX12_ruled_74 (by decide) ?_
            refine lv_icmp_ne (tgt := 82) hx hb dX12_ruled_75 (by decide) (fun c_375 => ?_) (fun c_375 => ?_)
            · skip
              rw [← Int32.toInt_inj, ti_1] at c_375
              refine lv_iconst (v := 3) hx hb dX12_ruled_82 (by decide) ?_
              exact hcut_242 3 (by decide) (by (try rw [ti_3]) <;> omega) ls (lv_sub hl [0, 1, 2] rfl)
            · skip
              rw [← Int32.toInt_inj, ti_1] at c_375
              refine lv_iconst (v := 2) hx hb dX12_ruled_78 (by decide) ?_
              refine lv_goto (tgt := 83) hx hb dX12_ruled_79 (by decide) ?_
              exact hcut_242 2 (by decide) (by (try rw [ti_2]) <;> omega) ls (lv_sub hl [0, 1, 2] rfl)
        · skip
          rw [← Int32.toInt_inj, ti_2] at c_240
          refine lv_aload_n hx hb dX12_ruled_47 rfl (lv_at hl 2 rfl) ?_
          refine tk_getP (D := (dC, dI)) (ci := 12) (v := .int v_75) (C := RX12) (T := TX12) (N := 56) hx hb hU inlX12 hown hK hP mo0 hfo_90 rfl 12 (by decide) (hU _ wd_618) (fun _ h9 => h9) rfl dX12_ruled_48 ?_
          refine lv_if_ne (tgt := 64) hx hb dX12_ruled_51 (by decide) (fun c_376 => ?_) (fun c_376 => ?_)
          · skip
            rw [← Int32.toInt_inj, ti_0] at c_376
            refine lv_aload_n hx hb dX12_ruled_64 rfl (lv_at hl 2 rfl) ?_
            refine lv_dup hx hb dX12_ruled_65 rfl ?_
            refine tk_getP (D := (dC, dI)) (ci := 12) (v := .int v_89) (C := RX12) (T := TX12) (N := 56) hx hb hU inlX12 hown hK hP mo0 hfo_90 rfl 6 (by decide) (hU _ wd_566) (fun _ h9 => h9) rfl dX12_ruled_66 ?_
            refine lv_iload_n hx hb dX12_ruled_69 rfl (lv_at hl 0 rfl) ?_
            refine lv_if_eq (tgt := 78) hx hb dX12_ruled_70 (by decide) (fun c_377 => ?_) (fun c_377 => ?_)
            · skip
              rw [← Int32.toInt_inj, ti_0] at c_377
              exfalso
              omega
            · skip
              rw [← Int32.toInt_inj, ti_0] at c_377
              refine lv_iload_n hx hb dX12_ruled_73 rfl (lv_at hl 0 rfl) ?_
              refine lv_iconst (v := 1) hx hb dX12_ruled_74 (by decide) ?_
              refine lv_icmp_ne (tgt := 82) hx hb dX12_ruled_75 (by decide) (fun c_378 => ?_) (fun c_378 => ?_)
              · skip
                rw [← Int32.toInt_inj, ti_1] at c_378
                refine lv_iconst (v := 3) hx hb dX12_ruled_82 (by decide) ?_
                refine lv_iadd hx hb dX12_ruled_83 ?_
                refine lv_topi (fun x_379 ex_379 => ?_)
                have hx_379 : x_379.toInt = v_89.toInt + 3 := by rw [ex_379, ad_I (by rw [ti_3]; omega) (by rw [ti_3]; omega), ti_3]
                have bx_379 : (3 ≤ x_379.toInt ∧ x_379.toInt ≤ 603) := by constructor <;> omega
                have hclc_380 : (0 ≤ x_379.toInt ∧ x_379.toInt ≤ 600) := by constructor <;> omega
                refine tk_putP (D := (dC, dI)) (ci := 12) (v := .int x_379) (ty := .int) (C := RX12) (T := TX12) (N := 56) hx hb hU inlX12 tyX12 tyX12_ok nmX12 hown hK hP hD hS mo0 hfo_90 rfl 6 (by decide) (hU _ wd_566) (fun _ h9 => h9) rfl (by decide +kernel) rfl rfl (Nat.le_of_ble_eq_true rfl) dX12_ruled_84 (fun H locs hP hD hS => ?_)
                have fa_381 := fu12_6 (y := x_379) fa_91 (by constructor <;> omega)
                obtain ⟨f_383, ef_383⟩ : ∃ y : Nat → va_E, y = va_up f_83 o0 (.inr (12, [.ref a_1, .ref a_2, .ref a_3, .int v_4, .ref a_5, .int v_6, .int x_379, .int v_72, .int v_73, .int v_10, .int v_11, .int v_74, .int v_75, .int v_76, .int v_15, .ref a_16, .ref a_17, .ref a_18, .ref a_19, .ref a_20, .ref a_21, .ref a_22, .ref a_23, .int v_24, .int v_25, .int v_26, .int v_27, .int v_28, .ref a_29, .int v_30, .ref a_31, .ref a_32, .int v_33, .int v_34, .ref a_35, .int v_36, .ref a_37, .ref a_38, .int v_39, .int v_40, .ref a_41, .ref a_42, .ref a_43, .int v_44, .ref a_45, .ref a_46, .ref a_47, .ref a_48, .ref a_49, .ref a_50, .ref a_51, .ref a_52, .ref a_53, .int v_54, .int v_55, .ref a_56])) := ⟨_, rfl⟩
                have hP : va_P (dC, dI) vwCl (va_pl L f_383) H := by rw [ef_383]; exact hP
                have hD : va_D (fun q => q ∈ L) (va_pl L f_383) := by rw [ef_383]; exact hD
                have hG : GI (okc cI cL cZ cR cG cH L kd) kd L f_383 := by rw [ef_383]; exact hG.set o0 (mk_12 ko0 (fo12 fa_381))
                have hfr0 : ∀ b, kd b ≠ 12 → kd b ≠ 576 → f_383 b = f b := fun b q12 q576 => (congrFun ef_383 b).trans ((up_ne (fun e9 => q12 (by rw [e9]; exact ko0))).trans (hfr0 b q12 q576))
                have hrA12 : ∀ b, kd b = 12 → ∀ j, fldR (f_383 b) j = fldR (f b) j := fun b kb j => ((congrArg (fun x => fldR x j) (congrFun ef_383 b)).trans (fra_up (fun j => by rw [hfo_90]; exact fr_set (k := 6) rfl rfl) j b)).trans (hrA12 b kb j)
                have hfA12 : ∀ b, kd b = 12 → ∀ j, j ≠ 6 → j ≠ 7 → j ≠ 8 → j ≠ 11 → j ≠ 12 → j ≠ 13 → j ≠ 14 → fldI (f_383 b) j = fldI (f b) j := fun b kb j n6 n7 n8 n11 n12 n13 n14 => ((congrArg (fun x => fldI x j) (congrFun ef_383 b)).trans (fia_up (fun h9 => by rw [hfo_90]; exact fi_set (k := 6) rfl h9) n6 b)).trans (hfA12 b kb j n6 n7 n8 n11 n12 n13 n14)
                have hT_80 : frel kd 576 7 f_383 a_2 := by rw [ef_383]; exact hT_80.keep (fun b q => up_ne (kd_ne ko0 q (by decide)))
                have hMm_92 : (∀ z9, fldI (f_383 o0) 6 = some z9 → v_7.toInt ≤ z9.toInt) := by rw [ef_383]; exact (fun z9 h9 => by rw [up_self] at h9; obtain rfl := Option.some.inj h9; have h8 := hMm_92 v_89 (by rw [hfo_90]; rfl); omega)
                have hfo_384 : f_383 o0 = .inr (12, [.ref a_1, .ref a_2, .ref a_3, .int v_4, .ref a_5, .int v_6, .int x_379, .int v_72, .int v_73, .int v_10, .int v_11, .int v_74, .int v_75, .int v_76, .int v_15, .ref a_16, .ref a_17, .ref a_18, .ref a_19, .ref a_20, .ref a_21, .ref a_22, .ref a_23, .int v_24, .int v_25, .int v_26, .int v_27, .int v_28, .ref a_29, .int v_30, .ref a_31, .ref a_32, .int v_33, .int v_34, .ref a_35, .int v_36, .ref a_37, .ref a_38, .int v_39, .int v_40, .ref a_41, .ref a_42, .ref a_43, .int v_44, .ref a_45, .ref a_46, .ref a_47, .ref a_48, .ref a_49, .ref a_50, .ref a_51, .ref a_52, .ref a_53, .int v_54, .int v_55, .ref a_56]) := by rw [ef_383]; exact up_self
                refine lv_iconst (v := 0) hx hb dX12_ruled_87 (by decide) ?_
                refine lv_istore_n (lv' := [(3, .int 0), (2, .int x_82), (1, .int x_61), (0, .ref o0)]) hx hb dX12_ruled_88 rfl hl (by decide) rfl (fun ls hl => ?_)
                refine lv_iconst (v := 1) hx hb dX12_ruled_89 (by decide) ?_
                refine lv_istore (lv' := [(4, .int 1), (3, .int 0), (2, .int x_82), (1, .int x_61), (0, .ref o0)]) hx hb dX12_ruled_90 hl (by decide) rfl (fun ls hl => ?_)
                have hloop_390 : ∀ (n : Nat), ∀ (y_391 : Int32), (0 ≤ y_391.toInt ∧ y_391.toInt ≤ 1) → ∀ (y_392 : Int32), (0 ≤ y_392.toInt ∧ y_392.toInt ≤ 3) → ∀ (f_394 : Nat → va_E), GI (okc cI cL cZ cR cG cH L kd) kd L f_394 → ∀ (H : Heap) (locs : List Loc), va_P (dC, dI) vwCl (va_pl L f_394) H → va_S (fun q => q ∈ L) s.heap H locs → va_D (fun q => q ∈ L) (va_pl L f_394) → (∀ b, kd b ≠ 12 → kd b ≠ 576 → f_394 b = f b) → (∀ b, kd b = 12 → ∀ j, fldR (f_394 b) j = fldR (f b) j) → (∀ b, kd b = 12 → ∀ j, j ≠ 6 → j ≠ 7 → j ≠ 8 → j ≠ 11 → j ≠ 12 → j ≠ 13 → j ≠ 14 → fldI (f_394 b) j = fldI (f b) j) → frel kd 576 7 f_394 a_2 → (∀ z9, fldI (f_394 o0) 6 = some z9 → v_7.toInt ≤ z9.toInt) → (y_391.toInt = 0 ∨ y_392.toInt ≤ 2) → 4 - y_392.toInt < (n : Int) → ∀ (ls : Array Slot), lv_has ls 6 [(4, .int y_391), (3, .int y_392), (2, .int x_82), (1, .int x_61), (0, .ref o0)] → W p l e (headSpec (wU yX12_ruled cX12_ruled 6 (some .boolean)) { frames := 7, cells := 0, slots := 0, locals := 150 }).room s m [.ref o0].toArray below meth c H locs 0 0 (MQ below (va_Qi (fun (r : Int32) (f9 : Nat → va_E) => GI (okc cI cL cZ cR cG cH L kd) kd L f9 ∧ (0 ≤ r.toInt ∧ r.toInt ≤ 1) ∧ (∀ b, kd b ≠ 12 → kd b ≠ 576 → f9 b = f b) ∧ (∀ b, kd b = 12 → ∀ j, fldR (f9 b) j = fldR (f b) j) ∧ (∀ b, kd b = 12 → ∀ j, j ≠ 6 → j ≠ 7 → j ≠ 8 → j ≠ 11 → j ≠ 12 → j ≠ 13 → j ≠ 14 → fldI (f9 b) j = fldI (f b) j) ∧ (∀ (w6 z6 : Int32), fldI (f o0) 6 = some w6 → fldI (f9 o0) 6 = some z6 → w6.toInt ≤ z6.toInt) ∧ (∀ d9, fldR (f9 o0) 1 = some d9 → frel kd 576 8 f9 d9)) (qP (dC, dI) cI cL cZ cR cG cH L) (fun q => q ∈ L)) [.ref o0].toArray s 0 0 (fun q => q ∈ L)) (F0 m 92 ls []) := by
                  intro n
                  induction n with
                  | zero => intro y_391 by_391 y_392 by_392 f_394 hG H locs hP hS hD hfr0 hrA12 hfA12 hT_80 hMm_92 hrelhloop_390_0 hmuhloop_390 ls hl; exfalso; omega
                  | succ n ih_hloop_390 =>
                    intro y_391 by_391 y_392 by_392 f_394 hG H locs hP hS hD hfr0 hrA12 hfA12 hT_80 hMm_92 hrelhloop_390_0 hmuhloop_390 ls hl
                    refine lv_iload hx hb dX12_ruled_92 (lv_at hl 0 rfl) ?_
                    refine lv_if_eq (tgt := 168) hx hb dX12_ruled_94 (by decide) (fun c_395 => ?_) (fun c_395 => ?_)
                    · skip
                      rw [← Int32.toInt_inj, ti_0] at c_395
                      refine lv_sipush (v := 460) hx hb dX12_ruled_168 (by decide) ?_
                      refine lv_iconst (v := 4) hx hb dX12_ruled_171 (by decide) ?_
                      refine lv_iload_n hx hb dX12_ruled_172 rfl (lv_at hl 3 rfl) ?_
                      refine lv_imul hx hb dX12_ruled_173 ?_
                      refine lv_topi (fun x_396 ex_396 => ?_)
                      have hx_396 : x_396.toInt = 4 * x_61.toInt := by rw [ex_396, ml_I (by rw [ti_4]; omega) (by rw [ti_4]; omega), ti_4]
                      have bx_396 : (0 ≤ x_396.toInt ∧ x_396.toInt ≤ 28) := by constructor <;> omega
                      refine lv_iadd hx hb dX12_ruled_174 ?_
                      refine lv_topi (fun x_397 ex_397 => ?_)
                      have hx_397 : x_397.toInt = 460 + x_396.toInt := by rw [ex_397, ad_I (by rw [ti_460]; omega) (by rw [ti_460]; omega), ti_460]
                      have bx_397 : (460 ≤ x_397.toInt ∧ x_397.toInt ≤ 488) := by constructor <;> omega
                      refine lv_istore (lv' := [(5, .int x_397), (4, .int y_391), (3, .int y_392), (2, .int x_82), (1, .int x_61), (0, .ref o0)]) hx hb dX12_ruled_175 hl (by decide) rfl (fun ls hl => ?_)
                      refine lv_aload_n hx hb dX12_ruled_177 rfl (lv_at hl 5 rfl) ?_
                      obtain ⟨v_398, v_399, v_400, v_401, v_402, v_403, v_404, hfo_405, fa_406⟩ := op12_6_7_8_11_12_13_14 hfo_57 (hG _ mo0) ko0 (hrA12 o0 ko0) (hfA12 o0 ko0)
                      have bv_398 : (0 ≤ v_398.toInt ∧ v_398.toInt ≤ 600) := fa12_6 fa_406
                      have bv_399 : ((-2147483648) ≤ v_399.toInt ∧ v_399.toInt ≤ 2147483647) := ⟨i32_lo _, i32_hi _⟩
                      have bv_400 : ((-2147483648) ≤ v_400.toInt ∧ v_400.toInt ≤ 2147483647) := ⟨i32_lo _, i32_hi _⟩
                      have bv_401 : (0 ≤ v_401.toInt ∧ v_401.toInt ≤ 8) := fa12_11 fa_406
                      have bv_402 : (0 ≤ v_402.toInt ∧ v_402.toInt ≤ 8) := fa12_12 fa_406
                      have bv_403 : (0 ≤ v_403.toInt ∧ v_403.toInt ≤ 8) := fa12_13 fa_406
                      have bv_404 : ((-2147483648) ≤ v_404.toInt ∧ v_404.toInt ≤ 2147483647) := ⟨i32_lo _, i32_hi _⟩
                      refine tk_getP (D := (dC, dI)) (ci := 12) (v := .ref a_2) (C := RX12) (T := TX12) (N := 56) hx hb hU inlX12 hown hK hP mo0 hfo_405 rfl 1 (by decide) (hU _ wd_170) (fun _ h9 => h9) rfl dX12_ruled_178 ?_
                      refine lv_iload hx hb dX12_ruled_181 (lv_at hl 0 rfl) ?_
                      refine lv_aload_n hx hb dX12_ruled_183 rfl (lv_at hl 5 rfl) ?_
                      refine tk_getP (D := (dC, dI)) (ci := 12) (v := .int v_402) (C := RX12) (T := TX12) (N := 56) hx hb hU inlX12 hown hK hP mo0 hfo_405 rfl 12 (by decide) (hU _ wd_618) (fun _ h9 => h9) rfl dX12_ruled_184 ?_
                      obtain ⟨g_408, hfo_407, hbg_408⟩ := un_576 (hG _ ma_2) ka_2
                      refine tk_istP hx hb hK hP hD hS 0 ma_2 hfo_407 rfl (vp_in_iff.mpr (by constructor <;> omega)) dX12_ruled_187 (fun H locs hP hD hS => ?_)
                      have hc9 := cl_I (i := x_397) (by omega)
                      obtain ⟨g_409, eqg_409⟩ : ∃ y : Nat → Int32, y = upd g_408 (Int32.toNatClampNeg x_397) v_402 := ⟨_, rfl⟩
                      rw [← eqg_409] at hP hD
                      have hbg_409 : wOK g_409 := by rw [eqg_409]; exact ⟨hbg_408.1.up (fun h1 h2 h3 => by exfalso; omega), hbg_408.2.1.up (fun h1 h2 h3 => by exfalso; omega), hbg_408.2.2.1.up (fun h1 h2 h3 => by exfalso; omega), hbg_408.2.2.2.1.up (fun h1 h2 h3 => by exfalso; omega), hbg_408.2.2.2.2.1.up (fun h1 h2 h3 => by exfalso; omega), hbg_408.2.2.2.2.2.1.up (fun h1 h2 h3 => by exfalso; omega), hbg_408.2.2.2.2.2.2.1.up (fun h1 h2 h3 => by exfalso; omega), hbg_408.2.2.2.2.2.2.2.1.up (fun h1 h2 h3 => by exfalso; omega), hbg_408.2.2.2.2.2.2.2.2.1.up (fun h1 h2 h3 => by exfalso; omega), hbg_408.2.2.2.2.2.2.2.2.2.1.up (fun h1 h2 h3 => by exfalso; omega), hbg_408.2.2.2.2.2.2.2.2.2.2.1.up (fun h1 h2 h3 => by exfalso; omega), hbg_408.2.2.2.2.2.2.2.2.2.2.2.1.up (fun h1 h2 h3 => by exfalso; omega), hbg_408.2.2.2.2.2.2.2.2.2.2.2.2.1.up (fun h1 h2 h3 => by constructor <;> omega), hbg_408.2.2.2.2.2.2.2.2.2.2.2.2.2.1.up (fun h1 h2 h3 => by exfalso; omega), hbg_408.2.2.2.2.2.2.2.2.2.2.2.2.2.2.1.up (fun h1 h2 h3 => by exfalso; omega), hbg_408.2.2.2.2.2.2.2.2.2.2.2.2.2.2.2.up (fun h1 h2 h3 => by exfalso; omega)⟩
                      obtain ⟨f_411, ef_411⟩ : ∃ y : Nat → va_E, y = va_up f_394 a_2 (.inl (cI, 1560, .inl g_409)) := ⟨_, rfl⟩
                      have hP : va_P (dC, dI) vwCl (va_pl L f_411) H := by rw [ef_411]; exact hP
                      have hD : va_D (fun q => q ∈ L) (va_pl L f_411) := by rw [ef_411]; exact hD
                      have hG : GI (okc cI cL cZ cR cG cH L kd) kd L f_411 := by rw [ef_411]; exact hG.set a_2 (mk_576 ka_2 ⟨_, rfl, hbg_409⟩)
                      have hfo_412 : f_411 o0 = .inr (12, [.ref a_1, .ref a_2, .ref a_3, .int v_4, .ref a_5, .int v_6, .int v_398, .int v_399, .int v_400, .int v_10, .int v_11, .int v_401, .int v_402, .int v_403, .int v_404, .ref a_16, .ref a_17, .ref a_18, .ref a_19, .ref a_20, .ref a_21, .ref a_22, .ref a_23, .int v_24, .int v_25, .int v_26, .int v_27, .int v_28, .ref a_29, .int v_30, .ref a_31, .ref a_32, .int v_33, .int v_34, .ref a_35, .int v_36, .ref a_37, .ref a_38, .int v_39, .int v_40, .ref a_41, .ref a_42, .ref a_43, .int v_44, .ref a_45, .ref a_46, .ref a_47, .ref a_48, .ref a_49, .ref a_50, .ref a_51, .ref a_52, .ref a_53, .int v_54, .int v_55, .ref a_56]) := by rw [ef_411, up_ne (kd_ne ka_2 ko0 (by decide))]; exact hfo_405
                      have hfr0 : ∀ b, kd b ≠ 12 → kd b ≠ 576 → f_411 b = f b := fun b q12 q576 => (congrFun ef_411 b).trans ((up_ne (fun e9 => q576 (by rw [e9]; exact ka_2))).trans (hfr0 b q12 q576))
                      have hrA12 : ∀ b, kd b = 12 → ∀ j, fldR (f_411 b) j = fldR (f b) j := fun b kb j => (congrArg (fun x => fldR x j) ((congrFun ef_411 b).trans (up_ne (kd_ne ka_2 kb (by decide))))).trans (hrA12 b kb j)
                      have hfA12 : ∀ b, kd b = 12 → ∀ j, j ≠ 6 → j ≠ 7 → j ≠ 8 → j ≠ 11 → j ≠ 12 → j ≠ 13 → j ≠ 14 → fldI (f_411 b) j = fldI (f b) j := fun b kb j n6 n7 n8 n11 n12 n13 n14 => (congrArg (fun x => fldI x j) ((congrFun ef_411 b).trans (up_ne (kd_ne ka_2 kb (by decide))))).trans (hfA12 b kb j n6 n7 n8 n11 n12 n13 n14)
                      have hT_80 : frel kd 576 7 f_411 a_2 := by rw [ef_411]; exact frel.mk ka_2 up_self (by rw [eqg_409]; exact (hT_80.get hfo_407).up (hbg_408.2.1 16 (by decide) (by decide) (by decide)).2 (by omega) (by omega) (by omega) (fun h9 => by exfalso; omega))
                      have hMm_92 : (∀ z9, fldI (f_411 o0) 6 = some z9 → v_7.toInt ≤ z9.toInt) := by rw [ef_411]; exact (fun z9 h9 => hMm_92 z9 (by rw [up_ne (kd_ne ka_2 ko0 (by decide))] at h9; exact h9))
                      have hfo_413 : f_411 a_2 = .inl (cI, 1560, .inl g_409) := by rw [ef_411]; exact up_self
                      have ql_414 : v_402 = g_409 (Int32.toNatClampNeg x_397) := by rw [eqg_409, pk_us]
                      refine lv_aload_n hx hb dX12_ruled_188 rfl (lv_at hl 5 rfl) ?_
                      refine tk_getP (D := (dC, dI)) (ci := 12) (v := .ref a_2) (C := RX12) (T := TX12) (N := 56) hx hb hU inlX12 hown hK hP mo0 hfo_412 rfl 1 (by decide) (hU _ wd_170) (fun _ h9 => h9) rfl dX12_ruled_189 ?_
                      refine lv_iload hx hb dX12_ruled_192 (lv_at hl 0 rfl) ?_
                      refine lv_iconst (v := 1) hx hb dX12_ruled_194 (by decide) ?_
                      refine lv_iadd hx hb dX12_ruled_195 ?_
                      refine lv_topi (fun x_415 ex_415 => ?_)
                      have hx_415 : x_415.toInt = x_397.toInt + 1 := by rw [ex_415, ad_I (by rw [ti_1]; omega) (by rw [ti_1]; omega), ti_1]
                      have bx_415 : (461 ≤ x_415.toInt ∧ x_415.toInt ≤ 489) := by constructor <;> omega
                      refine lv_aload_n hx hb dX12_ruled_196 rfl (lv_at hl 5 rfl) ?_
                      refine tk_getP (D := (dC, dI)) (ci := 12) (v := .int v_403) (C := RX12) (T := TX12) (N := 56) hx hb hU inlX12 hown hK hP mo0 hfo_412 rfl 13 (by decide) (hU _ wd_619) (fun _ h9 => h9) rfl dX12_ruled_197 ?_
                      refine tk_istP hx hb hK hP hD hS 0 ma_2 hfo_413 rfl (vp_in_iff.mpr (by constructor <;> omega)) dX12_ruled_200 (fun H locs hP hD hS => ?_)
                      have hc9 := cl_I (i := x_415) (by omega)
                      obtain ⟨g_416, eqg_416⟩ : ∃ y : Nat → Int32, y = upd g_409 (Int32.toNatClampNeg x_415) v_403 := ⟨_, rfl⟩
                      rw [← eqg_416] at hP hD
                      have hbg_416 : wOK g_416 := by rw [eqg_416]; exact ⟨hbg_409.1.up (fun h1 h2 h3 => by exfalso; omega), hbg_409.2.1.up (fun h1 h2 h3 => by exfalso; omega), hbg_409.2.2.1.up (fun h1 h2 h3 => by exfalso; omega), hbg_409.2.2.2.1.up (fun h1 h2 h3 => by exfalso; omega), hbg_409.2.2.2.2.1.up (fun h1 h2 h3 => by exfalso; omega), hbg_409.2.2.2.2.2.1.up (fun h1 h2 h3 => by exfalso; omega), hbg_409.2.2.2.2.2.2.1.up (fun h1 h2 h3 => by exfalso; omega), hbg_409.2.2.2.2.2.2.2.1.up (fun h1 h2 h3 => by exfalso; omega), hbg_409.2.2.2.2.2.2.2.2.1.up (fun h1 h2 h3 => by exfalso; omega), hbg_409.2.2.2.2.2.2.2.2.2.1.up (fun h1 h2 h3 => by exfalso; omega), hbg_409.2.2.2.2.2.2.2.2.2.2.1.up (fun h1 h2 h3 => by exfalso; omega), hbg_409.2.2.2.2.2.2.2.2.2.2.2.1.up (fun h1 h2 h3 => by exfalso; omega), hbg_409.2.2.2.2.2.2.2.2.2.2.2.2.1.up (fun h1 h2 h3 => by constructor <;> omega), hbg_409.2.2.2.2.2.2.2.2.2.2.2.2.2.1.up (fun h1 h2 h3 => by exfalso; omega), hbg_409.2.2.2.2.2.2.2.2.2.2.2.2.2.2.1.up (fun h1 h2 h3 => by exfalso; omega), hbg_409.2.2.2.2.2.2.2.2.2.2.2.2.2.2.2.up (fun h1 h2 h3 => by exfalso; omega)⟩
                      obtain ⟨f_418, ef_418⟩ : ∃ y : Nat → va_E, y = va_up f_411 a_2 (.inl (cI, 1560, .inl g_416)) := ⟨_, rfl⟩
                      have hP : va_P (dC, dI) vwCl (va_pl L f_418) H := by rw [ef_418]; exact hP
                      have hD : va_D (fun q => q ∈ L) (va_pl L f_418) := by rw [ef_418]; exact hD
                      have hG : GI (okc cI cL cZ cR cG cH L kd) kd L f_418 := by rw [ef_418]; exact hG.set a_2 (mk_576 ka_2 ⟨_, rfl, hbg_416⟩)
                      have hfo_419 : f_418 o0 = .inr (12, [.ref a_1, .ref a_2, .ref a_3, .int v_4, .ref a_5, .int v_6, .int v_398, .int v_399, .int v_400, .int v_10, .int v_11, .int v_401, .int v_402, .int v_403, .int v_404, .ref a_16, .ref a_17, .ref a_18, .ref a_19, .ref a_20, .ref a_21, .ref a_22, .ref a_23, .int v_24, .int v_25, .int v_26, .int v_27, .int v_28, .ref a_29, .int v_30, .ref a_31, .ref a_32, .int v_33, .int v_34, .ref a_35, .int v_36, .ref a_37, .ref a_38, .int v_39, .int v_40, .ref a_41, .ref a_42, .ref a_43, .int v_44, .ref a_45, .ref a_46, .ref a_47, .ref a_48, .ref a_49, .ref a_50, .ref a_51, .ref a_52, .ref a_53, .int v_54, .int v_55, .ref a_56]) := by rw [ef_418, up_ne (kd_ne ka_2 ko0 (by decide))]; exact hfo_412
                      have hfr0 : ∀ b, kd b ≠ 12 → kd b ≠ 576 → f_418 b = f b := fun b q12 q576 => (congrFun ef_418 b).trans ((up_ne (fun e9 => q576 (by rw [e9]; exact ka_2))).trans (hfr0 b q12 q576))
                      have hrA12 : ∀ b, kd b = 12 → ∀ j, fldR (f_418 b) j = fldR (f b) j := fun b kb j => (congrArg (fun x => fldR x j) ((congrFun ef_418 b).trans (up_ne (kd_ne ka_2 kb (by decide))))).trans (hrA12 b kb j)
                      have hfA12 : ∀ b, kd b = 12 → ∀ j, j ≠ 6 → j ≠ 7 → j ≠ 8 → j ≠ 11 → j ≠ 12 → j ≠ 13 → j ≠ 14 → fldI (f_418 b) j = fldI (f b) j := fun b kb j n6 n7 n8 n11 n12 n13 n14 => (congrArg (fun x => fldI x j) ((congrFun ef_418 b).trans (up_ne (kd_ne ka_2 kb (by decide))))).trans (hfA12 b kb j n6 n7 n8 n11 n12 n13 n14)
                      have hT_80 : frel kd 576 7 f_418 a_2 := by rw [ef_418]; exact frel.mk ka_2 up_self (by rw [eqg_416]; exact (hT_80.get hfo_413).up (hbg_409.2.1 16 (by decide) (by decide) (by decide)).2 (by omega) (by omega) (by omega) (fun h9 => by exfalso; omega))
                      have hMm_92 : (∀ z9, fldI (f_418 o0) 6 = some z9 → v_7.toInt ≤ z9.toInt) := by rw [ef_418]; exact (fun z9 h9 => hMm_92 z9 (by rw [up_ne (kd_ne ka_2 ko0 (by decide))] at h9; exact h9))
                      have hfo_420 : f_418 a_2 = .inl (cI, 1560, .inl g_416) := by rw [ef_418]; exact up_self
                      have ql_421 : v_403 = g_416 (Int32.toNatClampNeg x_415) := by rw [eqg_416, pk_us]
                      refine lv_aload_n hx hb dX12_ruled_201 rfl (lv_at hl 5 rfl) ?_
                      refine tk_getP (D := (dC, dI)) (ci := 12) (v := .ref a_2) (C := RX12) (T := TX12) (N := 56) hx hb hU inlX12 hown hK hP mo0 hfo_419 rfl 1 (by decide) (hU _ wd_170) (fun _ h9 => h9) rfl dX12_ruled_202 ?_
                      refine lv_iload hx hb dX12_ruled_205 (lv_at hl 0 rfl) ?_
                      refine lv_iconst (v := 2) hx hb dX12_ruled_207 (by decide) ?_
                      refine lv_iadd hx hb dX12_ruled_208 ?_
                      refine lv_topi (fun x_422 ex_422 => ?_)
                      have hx_422 : x_422.toInt = x_397.toInt + 2 := by rw [ex_422, ad_I (by rw [ti_2]; omega) (by rw [ti_2]; omega), ti_2]
                      have bx_422 : (462 ≤ x_422.toInt ∧ x_422.toInt ≤ 490) := by constructor <;> omega
                      refine lv_iload_n hx hb dX12_ruled_209 rfl (lv_at hl 3 rfl) ?_
                      refine tk_istP hx hb hK hP hD hS 0 ma_2 hfo_420 rfl (vp_in_iff.mpr (by constructor <;> omega)) dX12_ruled_210 (fun H locs hP hD hS => ?_)
                      have hc9 := cl_I (i := x_422) (by omega)
                      obtain ⟨g_423, eqg_423⟩ : ∃ y : Nat → Int32, y = upd g_416 (Int32.toNatClampNeg x_422) x_82 := ⟨_, rfl⟩
                      rw [← eqg_423] at hP hD
                      have hbg_423 : wOK g_423 := by rw [eqg_423]; exact ⟨hbg_416.1.up (fun h1 h2 h3 => by exfalso; omega), hbg_416.2.1.up (fun h1 h2 h3 => by exfalso; omega), hbg_416.2.2.1.up (fun h1 h2 h3 => by exfalso; omega), hbg_416.2.2.2.1.up (fun h1 h2 h3 => by exfalso; omega), hbg_416.2.2.2.2.1.up (fun h1 h2 h3 => by exfalso; omega), hbg_416.2.2.2.2.2.1.up (fun h1 h2 h3 => by exfalso; omega), hbg_416.2.2.2.2.2.2.1.up (fun h1 h2 h3 => by exfalso; omega), hbg_416.2.2.2.2.2.2.2.1.up (fun h1 h2 h3 => by exfalso; omega), hbg_416.2.2.2.2.2.2.2.2.1.up (fun h1 h2 h3 => by exfalso; omega), hbg_416.2.2.2.2.2.2.2.2.2.1.up (fun h1 h2 h3 => by exfalso; omega), hbg_416.2.2.2.2.2.2.2.2.2.2.1.up (fun h1 h2 h3 => by exfalso; omega), hbg_416.2.2.2.2.2.2.2.2.2.2.2.1.up (fun h1 h2 h3 => by exfalso; omega), hbg_416.2.2.2.2.2.2.2.2.2.2.2.2.1.up (fun h1 h2 h3 => by constructor <;> omega), hbg_416.2.2.2.2.2.2.2.2.2.2.2.2.2.1.up (fun h1 h2 h3 => by constructor <;> omega), hbg_416.2.2.2.2.2.2.2.2.2.2.2.2.2.2.1.up (fun h1 h2 h3 => by exfalso; omega), hbg_416.2.2.2.2.2.2.2.2.2.2.2.2.2.2.2.up (fun h1 h2 h3 => by exfalso; omega)⟩
                      obtain ⟨f_425, ef_425⟩ : ∃ y : Nat → va_E, y = va_up f_418 a_2 (.inl (cI, 1560, .inl g_423)) := ⟨_, rfl⟩
                      have hP : va_P (dC, dI) vwCl (va_pl L f_425) H := by rw [ef_425]; exact hP
                      have hD : va_D (fun q => q ∈ L) (va_pl L f_425) := by rw [ef_425]; exact hD
                      have hG : GI (okc cI cL cZ cR cG cH L kd) kd L f_425 := by rw [ef_425]; exact hG.set a_2 (mk_576 ka_2 ⟨_, rfl, hbg_423⟩)
                      have hfo_426 : f_425 o0 = .inr (12, [.ref a_1, .ref a_2, .ref a_3, .int v_4, .ref a_5, .int v_6, .int v_398, .int v_399, .int v_400, .int v_10, .int v_11, .int v_401, .int v_402, .int v_403, .int v_404, .ref a_16, .ref a_17, .ref a_18, .ref a_19, .ref a_20, .ref a_21, .ref a_22, .ref a_23, .int v_24, .int v_25, .int v_26, .int v_27, .int v_28, .ref a_29, .int v_30, .ref a_31, .ref a_32, .int v_33, .int v_34, .ref a_35, .int v_36, .ref a_37, .ref a_38, .int v_39, .int v_40, .ref a_41, .ref a_42, .ref a_43, .int v_44, .ref a_45, .ref a_46, .ref a_47, .ref a_48, .ref a_49, .ref a_50, .ref a_51, .ref a_52, .ref a_53, .int v_54, .int v_55, .ref a_56]) := by rw [ef_425, up_ne (kd_ne ka_2 ko0 (by decide))]; exact hfo_419
                      have hfr0 : ∀ b, kd b ≠ 12 → kd b ≠ 576 → f_425 b = f b := fun b q12 q576 => (congrFun ef_425 b).trans ((up_ne (fun e9 => q576 (by rw [e9]; exact ka_2))).trans (hfr0 b q12 q576))
                      have hrA12 : ∀ b, kd b = 12 → ∀ j, fldR (f_425 b) j = fldR (f b) j := fun b kb j => (congrArg (fun x => fldR x j) ((congrFun ef_425 b).trans (up_ne (kd_ne ka_2 kb (by decide))))).trans (hrA12 b kb j)
                      have hfA12 : ∀ b, kd b = 12 → ∀ j, j ≠ 6 → j ≠ 7 → j ≠ 8 → j ≠ 11 → j ≠ 12 → j ≠ 13 → j ≠ 14 → fldI (f_425 b) j = fldI (f b) j := fun b kb j n6 n7 n8 n11 n12 n13 n14 => (congrArg (fun x => fldI x j) ((congrFun ef_425 b).trans (up_ne (kd_ne ka_2 kb (by decide))))).trans (hfA12 b kb j n6 n7 n8 n11 n12 n13 n14)
                      have hT_80 : frel kd 576 7 f_425 a_2 := by rw [ef_425]; exact frel.mk ka_2 up_self (by rw [eqg_423]; exact (hT_80.get hfo_420).up (hbg_416.2.1 16 (by decide) (by decide) (by decide)).2 (by omega) (by omega) (by omega) (fun h9 => by exfalso; omega))
                      have hMm_92 : (∀ z9, fldI (f_425 o0) 6 = some z9 → v_7.toInt ≤ z9.toInt) := by rw [ef_425]; exact (fun z9 h9 => hMm_92 z9 (by rw [up_ne (kd_ne ka_2 ko0 (by decide))] at h9; exact h9))
                      have hfo_427 : f_425 a_2 = .inl (cI, 1560, .inl g_423) := by rw [ef_425]; exact up_self
                      have ql_428 : x_82 = g_423 (Int32.toNatClampNeg x_422) := by rw [eqg_423, pk_us]
                      refine lv_aload_n hx hb dX12_ruled_211 rfl (lv_at hl 5 rfl) ?_
                      refine tk_getP (D := (dC, dI)) (ci := 12) (v := .ref a_2) (C := RX12) (T := TX12) (N := 56) hx hb hU inlX12 hown hK hP mo0 hfo_426 rfl 1 (by decide) (hU _ wd_170) (fun _ h9 => h9) rfl dX12_ruled_212 ?_
                      refine lv_iload hx hb dX12_ruled_215 (lv_at hl 0 rfl) ?_
                      refine lv_iconst (v := 3) hx hb dX12_ruled_217 (by decide) ?_
                      refine lv_iadd hx hb dX12_ruled_218 ?_
                      refine lv_topi (fun x_429 ex_429 => ?_)
                      have hx_429 : x_429.toInt = x_397.toInt + 3 := by rw [ex_429, ad_I (by rw [ti_3]; omega) (by rw [ti_3]; omega), ti_3]
                      have bx_429 : (463 ≤ x_429.toInt ∧ x_429.toInt ≤ 491) := by constructor <;> omega
                      refine lv_iload_n hx hb dX12_ruled_219 rfl (lv_at hl 2 rfl) ?_
                      refine tk_istP hx hb hK hP hD hS 0 ma_2 hfo_427 rfl (vp_in_iff.mpr (by constructor <;> omega)) dX12_ruled_220 (fun H locs hP hD hS => ?_)
                      have hc9 := cl_I (i := x_429) (by omega)
                      obtain ⟨g_430, eqg_430⟩ : ∃ y : Nat → Int32, y = upd g_423 (Int32.toNatClampNeg x_429) y_392 := ⟨_, rfl⟩
                      rw [← eqg_430] at hP hD
                      have hbg_430 : wOK g_430 := by rw [eqg_430]; exact ⟨hbg_423.1.up (fun h1 h2 h3 => by exfalso; omega), hbg_423.2.1.up (fun h1 h2 h3 => by exfalso; omega), hbg_423.2.2.1.up (fun h1 h2 h3 => by exfalso; omega), hbg_423.2.2.2.1.up (fun h1 h2 h3 => by exfalso; omega), hbg_423.2.2.2.2.1.up (fun h1 h2 h3 => by exfalso; omega), hbg_423.2.2.2.2.2.1.up (fun h1 h2 h3 => by exfalso; omega), hbg_423.2.2.2.2.2.2.1.up (fun h1 h2 h3 => by exfalso; omega), hbg_423.2.2.2.2.2.2.2.1.up (fun h1 h2 h3 => by exfalso; omega), hbg_423.2.2.2.2.2.2.2.2.1.up (fun h1 h2 h3 => by exfalso; omega), hbg_423.2.2.2.2.2.2.2.2.2.1.up (fun h1 h2 h3 => by exfalso; omega), hbg_423.2.2.2.2.2.2.2.2.2.2.1.up (fun h1 h2 h3 => by exfalso; omega), hbg_423.2.2.2.2.2.2.2.2.2.2.2.1.up (fun h1 h2 h3 => by exfalso; omega), hbg_423.2.2.2.2.2.2.2.2.2.2.2.2.1.up (fun h1 h2 h3 => by constructor <;> omega), hbg_423.2.2.2.2.2.2.2.2.2.2.2.2.2.1.up (fun h1 h2 h3 => by exfalso; omega), hbg_423.2.2.2.2.2.2.2.2.2.2.2.2.2.2.1.up (fun h1 h2 h3 => by constructor <;> omega), hbg_423.2.2.2.2.2.2.2.2.2.2.2.2.2.2.2.up (fun h1 h2 h3 => by exfalso; omega)⟩
                      obtain ⟨f_432, ef_432⟩ : ∃ y : Nat → va_E, y = va_up f_425 a_2 (.inl (cI, 1560, .inl g_430)) := ⟨_, rfl⟩
                      have hP : va_P (dC, dI) vwCl (va_pl L f_432) H := by rw [ef_432]; exact hP
                      have hD : va_D (fun q => q ∈ L) (va_pl L f_432) := by rw [ef_432]; exact hD
                      have hG : GI (okc cI cL cZ cR cG cH L kd) kd L f_432 := by rw [ef_432]; exact hG.set a_2 (mk_576 ka_2 ⟨_, rfl, hbg_430⟩)
                      have hfo_433 : f_432 o0 = .inr (12, [.ref a_1, .ref a_2, .ref a_3, .int v_4, .ref a_5, .int v_6, .int v_398, .int v_399, .int v_400, .int v_10, .int v_11, .int v_401, .int v_402, .int v_403, .int v_404, .ref a_16, .ref a_17, .ref a_18, .ref a_19, .ref a_20, .ref a_21, .ref a_22, .ref a_23, .int v_24, .int v_25, .int v_26, .int v_27, .int v_28, .ref a_29, .int v_30, .ref a_31, .ref a_32, .int v_33, .int v_34, .ref a_35, .int v_36, .ref a_37, .ref a_38, .int v_39, .int v_40, .ref a_41, .ref a_42, .ref a_43, .int v_44, .ref a_45, .ref a_46, .ref a_47, .ref a_48, .ref a_49, .ref a_50, .ref a_51, .ref a_52, .ref a_53, .int v_54, .int v_55, .ref a_56]) := by rw [ef_432, up_ne (kd_ne ka_2 ko0 (by decide))]; exact hfo_426
                      have hfr0 : ∀ b, kd b ≠ 12 → kd b ≠ 576 → f_432 b = f b := fun b q12 q576 => (congrFun ef_432 b).trans ((up_ne (fun e9 => q576 (by rw [e9]; exact ka_2))).trans (hfr0 b q12 q576))
                      have hrA12 : ∀ b, kd b = 12 → ∀ j, fldR (f_432 b) j = fldR (f b) j := fun b kb j => (congrArg (fun x => fldR x j) ((congrFun ef_432 b).trans (up_ne (kd_ne ka_2 kb (by decide))))).trans (hrA12 b kb j)
                      have hfA12 : ∀ b, kd b = 12 → ∀ j, j ≠ 6 → j ≠ 7 → j ≠ 8 → j ≠ 11 → j ≠ 12 → j ≠ 13 → j ≠ 14 → fldI (f_432 b) j = fldI (f b) j := fun b kb j n6 n7 n8 n11 n12 n13 n14 => (congrArg (fun x => fldI x j) ((congrFun ef_432 b).trans (up_ne (kd_ne ka_2 kb (by decide))))).trans (hfA12 b kb j n6 n7 n8 n11 n12 n13 n14)
                      have hT_80 : frel kd 576 7 f_432 a_2 := by rw [ef_432]; exact frel.mk ka_2 up_self (by rw [eqg_430]; exact (hT_80.get hfo_427).up (hbg_423.2.1 16 (by decide) (by decide) (by decide)).2 (by omega) (by omega) (by omega) (fun h9 => by exfalso; omega))
                      have hMm_92 : (∀ z9, fldI (f_432 o0) 6 = some z9 → v_7.toInt ≤ z9.toInt) := by rw [ef_432]; exact (fun z9 h9 => hMm_92 z9 (by rw [up_ne (kd_ne ka_2 ko0 (by decide))] at h9; exact h9))
                      have hfo_434 : f_432 a_2 = .inl (cI, 1560, .inl g_430) := by rw [ef_432]; exact up_self
                      have ql_435 : y_392 = g_430 (Int32.toNatClampNeg x_429) := by rw [eqg_430, pk_us]
                      refine lv_aload_n hx hb dX12_ruled_221 rfl (lv_at hl 5 rfl) ?_
                      refine tk_getP (D := (dC, dI)) (ci := 12) (v := .ref a_2) (C := RX12) (T := TX12) (N := 56) hx hb hU inlX12 hown hK hP mo0 hfo_433 rfl 1 (by decide) (hU _ wd_170) (fun _ h9 => h9) rfl dX12_ruled_222 ?_
                      refine lv_bipush (v := 17) hx hb dX12_ruled_225 (by decide) ?_
                      refine lv_dup2_11 hx hb dX12_ruled_227 rfl rfl ?_
                      refine tk_ildP hx hb hK hP 0 ma_2 hfo_434 rfl (vp_in_nI (n := 17) (by decide) (by decide)) dX12_ruled_228 ?_
                      refine lv_topi (fun x_436 ex_436 => ?_)
                      have bx_436 : (0 ≤ x_436.toInt ∧ x_436.toInt ≤ 8) := by rw [ex_436]; exact hbg_430.2.2.1 _ (by decide) (by decide) (by decide)
                      have hF7c_437 := hT_80.get hfo_434
                      have hnrc_438 : (0 ≤ x_436.toInt ∧ x_436.toInt ≤ 7) := by have hq1 := hF7c_437.2.2.2; have hq2 : x_436.toInt = (g_430 17).toInt := (by rw [ex_436]; rfl); constructor <;> omega
                      refine lv_iconst (v := 1) hx hb dX12_ruled_229 (by decide) ?_
                      refine lv_iadd hx hb dX12_ruled_230 ?_
                      refine lv_topi (fun x_439 ex_439 => ?_)
                      have hx_439 : x_439.toInt = x_436.toInt + 1 := by rw [ex_439, ad_I (by rw [ti_1]; omega) (by rw [ti_1]; omega), ti_1]
                      have bx_439 : (1 ≤ x_439.toInt ∧ x_439.toInt ≤ 8) := by constructor <;> omega
                      refine tk_istP hx hb hK hP hD hS 0 ma_2 hfo_434 rfl (vp_in_nI (n := 17) (by decide) (by decide)) dX12_ruled_231 (fun H locs hP hD hS => ?_)
                      have hc9 : ((Int32.toNatClampNeg 17 : Nat) : Int) = 17 := by decide
                      obtain ⟨g_440, eqg_440⟩ : ∃ y : Nat → Int32, y = upd g_430 (Int32.toNatClampNeg 17) x_439 := ⟨_, rfl⟩
                      rw [← eqg_440] at hP hD
                      have hbg_440 : wOK g_440 := by rw [eqg_440]; exact ⟨hbg_430.1.up (fun h1 h2 h3 => by exfalso; omega), hbg_430.2.1.up (fun h1 h2 h3 => by exfalso; omega), hbg_430.2.2.1.up (fun h1 h2 h3 => by constructor <;> omega), hbg_430.2.2.2.1.up (fun h1 h2 h3 => by exfalso; omega), hbg_430.2.2.2.2.1.up (fun h1 h2 h3 => by exfalso; omega), hbg_430.2.2.2.2.2.1.up (fun h1 h2 h3 => by exfalso; omega), hbg_430.2.2.2.2.2.2.1.up (fun h1 h2 h3 => by exfalso; omega), hbg_430.2.2.2.2.2.2.2.1.up (fun h1 h2 h3 => by exfalso; omega), hbg_430.2.2.2.2.2.2.2.2.1.up (fun h1 h2 h3 => by exfalso; omega), hbg_430.2.2.2.2.2.2.2.2.2.1.up (fun h1 h2 h3 => by exfalso; omega), hbg_430.2.2.2.2.2.2.2.2.2.2.1.up (fun h1 h2 h3 => by exfalso; omega), hbg_430.2.2.2.2.2.2.2.2.2.2.2.1.up (fun h1 h2 h3 => by exfalso; omega), hbg_430.2.2.2.2.2.2.2.2.2.2.2.2.1.up (fun h1 h2 h3 => by exfalso; omega), hbg_430.2.2.2.2.2.2.2.2.2.2.2.2.2.1.up (fun h1 h2 h3 => by exfalso; omega), hbg_430.2.2.2.2.2.2.2.2.2.2.2.2.2.2.1.up (fun h1 h2 h3 => by exfalso; omega), hbg_430.2.2.2.2.2.2.2.2.2.2.2.2.2.2.2.up (fun h1 h2 h3 => by exfalso; omega)⟩
                      obtain ⟨f_442, ef_442⟩ : ∃ y : Nat → va_E, y = va_up f_432 a_2 (.inl (cI, 1560, .inl g_440)) := ⟨_, rfl⟩
                      have hP : va_P (dC, dI) vwCl (va_pl L f_442) H := by rw [ef_442]; exact hP
                      have hD : va_D (fun q => q ∈ L) (va_pl L f_442) := by rw [ef_442]; exact hD
                      have hG : GI (okc cI cL cZ cR cG cH L kd) kd L f_442 := by rw [ef_442]; exact hG.set a_2 (mk_576 ka_2 ⟨_, rfl, hbg_440⟩)
                      have hfo_443 : f_442 o0 = .inr (12, [.ref a_1, .ref a_2, .ref a_3, .int v_4, .ref a_5, .int v_6, .int v_398, .int v_399, .int v_400, .int v_10, .int v_11, .int v_401, .int v_402, .int v_403, .int v_404, .ref a_16, .ref a_17, .ref a_18, .ref a_19, .ref a_20, .ref a_21, .ref a_22, .ref a_23, .int v_24, .int v_25, .int v_26, .int v_27, .int v_28, .ref a_29, .int v_30, .ref a_31, .ref a_32, .int v_33, .int v_34, .ref a_35, .int v_36, .ref a_37, .ref a_38, .int v_39, .int v_40, .ref a_41, .ref a_42, .ref a_43, .int v_44, .ref a_45, .ref a_46, .ref a_47, .ref a_48, .ref a_49, .ref a_50, .ref a_51, .ref a_52, .ref a_53, .int v_54, .int v_55, .ref a_56]) := by rw [ef_442, up_ne (kd_ne ka_2 ko0 (by decide))]; exact hfo_433
                      have hfr0 : ∀ b, kd b ≠ 12 → kd b ≠ 576 → f_442 b = f b := fun b q12 q576 => (congrFun ef_442 b).trans ((up_ne (fun e9 => q576 (by rw [e9]; exact ka_2))).trans (hfr0 b q12 q576))
                      have hrA12 : ∀ b, kd b = 12 → ∀ j, fldR (f_442 b) j = fldR (f b) j := fun b kb j => (congrArg (fun x => fldR x j) ((congrFun ef_442 b).trans (up_ne (kd_ne ka_2 kb (by decide))))).trans (hrA12 b kb j)
                      have hfA12 : ∀ b, kd b = 12 → ∀ j, j ≠ 6 → j ≠ 7 → j ≠ 8 → j ≠ 11 → j ≠ 12 → j ≠ 13 → j ≠ 14 → fldI (f_442 b) j = fldI (f b) j := fun b kb j n6 n7 n8 n11 n12 n13 n14 => (congrArg (fun x => fldI x j) ((congrFun ef_442 b).trans (up_ne (kd_ne ka_2 kb (by decide))))).trans (hfA12 b kb j n6 n7 n8 n11 n12 n13 n14)
                      have hMm_92 : (∀ z9, fldI (f_442 o0) 6 = some z9 → v_7.toInt ≤ z9.toInt) := by rw [ef_442]; exact (fun z9 h9 => hMm_92 z9 (by rw [up_ne (kd_ne ka_2 ko0 (by decide))] at h9; exact h9))
                      have hfo_444 : f_442 a_2 = .inl (cI, 1560, .inl g_440) := by rw [ef_442]; exact up_self
                      have ql_445 : x_439 = g_440 (Int32.toNatClampNeg 17) := by rw [eqg_440, pk_us]
                      refine lv_iconst (v := 1) hx hb dX12_ruled_232 (by decide) ?_
                      have hM9 := hMm_92 v_398 (by rw [hfo_443]; rfl)
                      exact W.zret (v := 1) (ty := .boolean) hx hb hr rfl (fun t ht hW => ⟨⟨1, f_442, rfl, ⟨hG, (by decide), hfr0, hrA12, hfA12, (by intro w6 z6 e6 d6; rw [hfo_57] at e6; rw [hfo_443] at d6; obtain rfl := Option.some.inj e6; obtain rfl := Option.some.inj d6; (try rw [ti_1]) <;> omega), (fun d9 h9 => by rw [hfo_443] at h9; obtain rfl := Option.some.inj h9; exact frel.mk ka_2 hfo_444 (by rw [eqg_440]; exact hF7c_437.same (hbg_430.2.1 16 (by decide) (by decide) (by decide)).2 (pk_un (by decide)) (pk_un (by decide)) (fun k9 h9 => pk_un (by have hc8 : Int32.toNatClampNeg 17 = 17 := rfl; omega)) (by rw [show (17 : Nat) = Int32.toNatClampNeg 17 from rfl, pk_us]; omega)))⟩, by rw [ht]; exact hP, va_K.moved hW.alike hK, pl_in hD⟩, hS.F ht⟩) hS.2.2 dX12_ruled_233
                    · skip
                      rw [← Int32.toInt_inj, ti_0] at c_395
                      have hclc_446 : (0 ≤ y_392.toInt ∧ y_392.toInt ≤ 2) := by constructor <;> omega
                      refine lv_aload_n hx hb dX12_ruled_97 rfl (lv_at hl 4 rfl) ?_
                      refine lv_iconst (v := 3) hx hb dX12_ruled_98 (by decide) ?_
                      refine lv_iload_n hx hb dX12_ruled_99 rfl (lv_at hl 3 rfl) ?_
                      refine lv_imul hx hb dX12_ruled_100 ?_
                      refine lv_topi (fun x_447 ex_447 => ?_)
                      have hx_447 : x_447.toInt = 3 * x_61.toInt := by rw [ex_447, ml_I (by rw [ti_3]; omega) (by rw [ti_3]; omega), ti_3]
                      have bx_447 : (0 ≤ x_447.toInt ∧ x_447.toInt ≤ 21) := by constructor <;> omega
                      refine lv_iload_n hx hb dX12_ruled_101 rfl (lv_at hl 1 rfl) ?_
                      refine lv_iadd hx hb dX12_ruled_102 ?_
                      refine lv_topi (fun x_448 ex_448 => ?_)
                      have hx_448 : x_448.toInt = x_447.toInt + y_392.toInt := by rw [ex_448, ad_I (by omega) (by omega)]
                      have bx_448 : (0 ≤ x_448.toInt ∧ x_448.toInt ≤ 23) := by constructor <;> omega
                      obtain ⟨v_449, v_450, v_451, v_452, v_453, v_454, v_455, hfo_456, fa_457⟩ := op12_6_7_8_11_12_13_14 hfo_57 (hG _ mo0) ko0 (hrA12 o0 ko0) (hfA12 o0 ko0)
                      have bv_449 : (0 ≤ v_449.toInt ∧ v_449.toInt ≤ 600) := fa12_6 fa_457
                      have bv_450 : ((-2147483648) ≤ v_450.toInt ∧ v_450.toInt ≤ 2147483647) := ⟨i32_lo _, i32_hi _⟩
                      have bv_451 : ((-2147483648) ≤ v_451.toInt ∧ v_451.toInt ≤ 2147483647) := ⟨i32_lo _, i32_hi _⟩
                      have bv_452 : (0 ≤ v_452.toInt ∧ v_452.toInt ≤ 8) := fa12_11 fa_457
                      have bv_453 : (0 ≤ v_453.toInt ∧ v_453.toInt ≤ 8) := fa12_12 fa_457
                      have bv_454 : (0 ≤ v_454.toInt ∧ v_454.toInt ≤ 8) := fa12_13 fa_457
                      have bv_455 : ((-2147483648) ≤ v_455.toInt ∧ v_455.toInt ≤ 2147483647) := ⟨i32_lo _, i32_hi _⟩
                      refine tk_ViP (As := [.int x_448]) (rest := []) (n := 1) hx hb hml hown hU hN hZ (s_X12_context_k12 l (dC, dI) cI cL cZ cR cG cH Z kd L f_394 hG o0 mo0 ko0 x_448 (by constructor <;> omega) (fun d9 h9 => by rw [hfo_456] at h9; obtain rfl := Option.some.inj h9; exact hT_80)) wd_639 wd_640 wd_641 wd_5 wd_642 (by decide +kernel) ⟨Nat.le_of_ble_eq_true rfl, Nat.le_of_ble_eq_true rfl⟩ hK hP hD hS mo0 hfo_456 12 rfl rfl rfl hl.1 rfl (Nat.le_of_ble_eq_true rfl) dX12_ruled_103 ⟨Nat.le_of_ble_eq_true rfl, Nat.le_of_ble_eq_true rfl⟩ (fun x_458 f_459 H locs hw hP hD hS => ?_)
                      obtain ⟨hG, bx_458, hkc_460, hra_461, hfa_462, hpost_463, hTc_464⟩ := hw
                      have hfr0 : ∀ b, kd b ≠ 12 → kd b ≠ 576 → f_459 b = f b := fun b q12 q576 => (hkc_460 b q12 q576).trans (hfr0 b q12 q576)
                      have hrA12 : ∀ b, kd b = 12 → ∀ j, fldR (f_459 b) j = fldR (f b) j := fun b kb j => (hra_461 b kb j).trans (hrA12 b kb j)
                      have hfA12 : ∀ b, kd b = 12 → ∀ j, j ≠ 6 → j ≠ 7 → j ≠ 8 → j ≠ 11 → j ≠ 12 → j ≠ 13 → j ≠ 14 → fldI (f_459 b) j = fldI (f b) j := fun b kb j n6 n7 n8 n11 n12 n13 n14 => (hfa_462 b kb j n6 n7 n8 n14).trans (hfA12 b kb j n6 n7 n8 n11 n12 n13 n14)
                      obtain ⟨v_466, v_467, v_468, v_469, hfo_470, fa_471⟩ := op12_6_7_8_14 hfo_456 (hG _ mo0) ko0 (hra_461 o0 ko0) (hfa_462 o0 ko0)
                      have bv_466 : (0 ≤ v_466.toInt ∧ v_466.toInt ≤ 600) := fa12_6 fa_471
                      have bv_467 : ((-2147483648) ≤ v_467.toInt ∧ v_467.toInt ≤ 2147483647) := ⟨i32_lo _, i32_hi _⟩
                      have bv_468 : ((-2147483648) ≤ v_468.toInt ∧ v_468.toInt ≤ 2147483647) := ⟨i32_lo _, i32_hi _⟩
                      have bv_469 : ((-2147483648) ≤ v_469.toInt ∧ v_469.toInt ≤ 2147483647) := ⟨i32_lo _, i32_hi _⟩
                      have hqhpost_463 := hpost_463 v_449 v_466 (by rw [hfo_456]; rfl) (by rw [hfo_470]; rfl)
                      have hMm_472 : (∀ z9, fldI (f_459 o0) 6 = some z9 → v_7.toInt ≤ z9.toInt) := fun z9 h9 => by rw [hfo_470] at h9; obtain rfl := Option.some.inj h9; have h8 := hMm_92 v_449 (by rw [hfo_456]; rfl); omega
                      have hT_473 := hTc_464 a_2 (by rw [hfo_470]; rfl)
                      refine lv_if_ne (tgt := 111) hx hb dX12_ruled_106 (by decide) (fun c_474 => ?_) (fun c_474 => ?_)
                      · skip
                        rw [← Int32.toInt_inj, ti_0] at c_474
                        obtain ⟨x_475, ex_475⟩ : ∃ y : Int32, y_392 + 1 = y := ⟨_, rfl⟩
                        have hx_475 : x_475.toInt = y_392.toInt + 1 := by rw [← ex_475, ad_I (by rw [ti_1]; omega) (by rw [ti_1]; omega), ti_1]
                        have bx_475 : (1 ≤ x_475.toInt ∧ x_475.toInt ≤ 3) := by constructor <;> omega
                        refine lv_iinc (v := x_475) (lv' := [(3, .int x_475), (4, .int y_391), (2, .int x_82), (1, .int x_61), (0, .ref o0)]) hx hb dX12_ruled_111 hl (k := 1) rfl ex_475 (by decide) rfl (fun ls hl => ?_)
                        refine lv_aload_n hx hb dX12_ruled_114 rfl (lv_at hl 4 rfl) ?_
                        refine tk_ViP (As := []) (rest := []) (n := 0) hx hb hml hown hU hN hZ (s_X12_sign_k12 l (dC, dI) cI cL cZ cR cG cH Z kd L f_459 hG o0 mo0 ko0) wd_573 wd_574 wd_575 wd_5 wd_576 (by decide +kernel) ⟨Nat.le_of_ble_eq_true rfl, Nat.le_of_ble_eq_true rfl⟩ hK hP hD hS mo0 hfo_470 12 rfl rfl rfl hl.1 rfl (Nat.le_of_ble_eq_true rfl) dX12_ruled_115 ⟨Nat.le_of_ble_eq_true rfl, Nat.le_of_ble_eq_true rfl⟩ (fun x_476 f_477 H locs hw hP hD hS => ?_)
                        obtain ⟨hG, bx_476, hkc_478, hra_479, hfa_480, hpost_481⟩ := hw
                        have hfr0 : ∀ b, kd b ≠ 12 → kd b ≠ 576 → f_477 b = f b := fun b q12 q576 => (hkc_478 b q12).trans (hfr0 b q12 q576)
                        have hrA12 : ∀ b, kd b = 12 → ∀ j, fldR (f_477 b) j = fldR (f b) j := fun b kb j => (hra_479 b kb j).trans (hrA12 b kb j)
                        have hfA12 : ∀ b, kd b = 12 → ∀ j, j ≠ 6 → j ≠ 7 → j ≠ 8 → j ≠ 11 → j ≠ 12 → j ≠ 13 → j ≠ 14 → fldI (f_477 b) j = fldI (f b) j := fun b kb j n6 n7 n8 n11 n12 n13 n14 => (hfa_480 b kb j n6).trans (hfA12 b kb j n6 n7 n8 n11 n12 n13 n14)
                        have hT_473 : frel kd 576 7 f_477 a_2 := hT_473.keep (fun b q => hkc_478 b (by rw [q]; decide))
                        obtain ⟨v_483, hfo_484, fa_485⟩ := op12_6 hfo_470 (hG _ mo0) ko0 (hra_479 o0 ko0) (hfa_480 o0 ko0)
                        have bv_483 : (0 ≤ v_483.toInt ∧ v_483.toInt ≤ 600) := fa12_6 fa_485
                        have hqhpost_481 := hpost_481 v_466 v_483 (by rw [hfo_470]; rfl) (by rw [hfo_484]; rfl)
                        have hMm_486 : (∀ z9, fldI (f_477 o0) 6 = some z9 → v_7.toInt ≤ z9.toInt) := fun z9 h9 => by rw [hfo_484] at h9; obtain rfl := Option.some.inj h9; have h8 := hMm_472 v_466 (by rw [hfo_470]; rfl); omega
                        refine lv_bipush (v := 124) hx hb dX12_ruled_118 (by decide) ?_
                        have hcut_488 : ∀ (y_487 : Int32), (0 ≤ y_487.toInt ∧ y_487.toInt ≤ 1) → (y_487.toInt = 0 ∨ v_483.toInt ≤ 599) → ∀ (ls : Array Slot), lv_has ls 6 [(3, .int x_475), (4, .int y_391), (2, .int x_82), (1, .int x_61), (0, .ref o0)] → W p l e (headSpec (wU yX12_ruled cX12_ruled 6 (some .boolean)) { frames := 7, cells := 0, slots := 0, locals := 150 }).room s m [.ref o0].toArray below meth c H locs 0 0 (MQ below (va_Qi (fun (r : Int32) (f9 : Nat → va_E) => GI (okc cI cL cZ cR cG cH L kd) kd L f9 ∧ (0 ≤ r.toInt ∧ r.toInt ≤ 1) ∧ (∀ b, kd b ≠ 12 → kd b ≠ 576 → f9 b = f b) ∧ (∀ b, kd b = 12 → ∀ j, fldR (f9 b) j = fldR (f b) j) ∧ (∀ b, kd b = 12 → ∀ j, j ≠ 6 → j ≠ 7 → j ≠ 8 → j ≠ 11 → j ≠ 12 → j ≠ 13 → j ≠ 14 → fldI (f9 b) j = fldI (f b) j) ∧ (∀ (w6 z6 : Int32), fldI (f o0) 6 = some w6 → fldI (f9 o0) 6 = some z6 → w6.toInt ≤ z6.toInt) ∧ (∀ d9, fldR (f9 o0) 1 = some d9 → frel kd 576 8 f9 d9)) (qP (dC, dI) cI cL cZ cR cG cH L) (fun q => q ∈ L)) [.ref o0].toArray s 0 0 (fun q => q ∈ L)) (F0 m 128 ls [.int y_487]) := by
                          intro y_487 by_487 hjhcut_488_0 ls hl
                          refine lv_istore (lv' := [(4, .int y_487), (3, .int x_475), (2, .int x_82), (1, .int x_61), (0, .ref o0)]) hx hb dX12_ruled_128 hl (by decide) rfl (fun ls hl => ?_)
                          refine lv_iload hx hb dX12_ruled_130 (lv_at hl 0 rfl) ?_
                          refine lv_if_eq (tgt := 150) hx hb dX12_ruled_132 (by decide) (fun c_489 => ?_) (fun c_489 => ?_)
                          · skip
                            rw [← Int32.toInt_inj, ti_0] at c_489
                            refine lv_iload hx hb dX12_ruled_150 (lv_at hl 0 rfl) ?_
                            refine lv_if_eq (tgt := 92) hx hb dX12_ruled_152 (by decide) (fun c_490 => ?_) (fun c_490 => ?_)
                            · skip
                              rw [← Int32.toInt_inj, ti_0] at c_490
                              exact ih_hloop_390 y_487 (by constructor <;> omega) x_475 (by constructor <;> omega) f_477 hG _ _ hP hS hD hfr0 hrA12 hfA12 hT_473 hMm_486 (by omega) (by omega) ls (lv_sub hl [0, 1, 2, 3, 4] rfl)
                            · skip
                              rw [← Int32.toInt_inj, ti_0] at c_490
                              exfalso
                              omega
                          · skip
                            rw [← Int32.toInt_inj, ti_0] at c_489
                            refine lv_iload_n hx hb dX12_ruled_135 rfl (lv_at hl 1 rfl) ?_
                            refine lv_iconst (v := 3) hx hb dX12_ruled_136 (by decide) ?_
                            refine lv_icmp_ne (tgt := 150) hx hb dX12_ruled_137 (by decide) (fun c_491 => ?_) (fun c_491 => ?_)
                            · skip
                              rw [← Int32.toInt_inj, ti_3] at c_491
                              refine lv_iload hx hb dX12_ruled_150 (lv_at hl 0 rfl) ?_
                              refine lv_if_eq (tgt := 92) hx hb dX12_ruled_152 (by decide) (fun c_492 => ?_) (fun c_492 => ?_)
                              · skip
                                rw [← Int32.toInt_inj, ti_0] at c_492
                                exfalso
                                omega
                              · skip
                                rw [← Int32.toInt_inj, ti_0] at c_492
                                have hclc_493 : (0 ≤ v_483.toInt ∧ v_483.toInt ≤ 599) := by constructor <;> omega
                                refine lv_aload_n hx hb dX12_ruled_155 rfl (lv_at hl 4 rfl) ?_
                                refine lv_dup hx hb dX12_ruled_156 rfl ?_
                                refine tk_getP (D := (dC, dI)) (ci := 12) (v := .int v_483) (C := RX12) (T := TX12) (N := 56) hx hb hU inlX12 hown hK hP mo0 hfo_484 rfl 6 (by decide) (hU _ wd_566) (fun _ h9 => h9) rfl dX12_ruled_157 ?_
                                refine lv_iconst (v := 1) hx hb dX12_ruled_160 (by decide) ?_
                                refine lv_iadd hx hb dX12_ruled_161 ?_
                                refine lv_topi (fun x_494 ex_494 => ?_)
                                have hx_494 : x_494.toInt = v_483.toInt + 1 := by rw [ex_494, ad_I (by rw [ti_1]; omega) (by rw [ti_1]; omega), ti_1]
                                have bx_494 : (1 ≤ x_494.toInt ∧ x_494.toInt ≤ 600) := by constructor <;> omega
                                refine tk_putP (D := (dC, dI)) (ci := 12) (v := .int x_494) (ty := .int) (C := RX12) (T := TX12) (N := 56) hx hb hU inlX12 tyX12 tyX12_ok nmX12 hown hK hP hD hS mo0 hfo_484 rfl 6 (by decide) (hU _ wd_566) (fun _ h9 => h9) rfl (by decide +kernel) rfl rfl (Nat.le_of_ble_eq_true rfl) dX12_ruled_162 (fun H locs hP hD hS => ?_)
                                have fa_495 := fu12_6 (y := x_494) fa_485 (by constructor <;> omega)
                                obtain ⟨f_497, ef_497⟩ : ∃ y : Nat → va_E, y = va_up f_477 o0 (.inr (12, [.ref a_1, .ref a_2, .ref a_3, .int v_4, .ref a_5, .int v_6, .int x_494, .int v_467, .int v_468, .int v_10, .int v_11, .int v_452, .int v_453, .int v_454, .int v_469, .ref a_16, .ref a_17, .ref a_18, .ref a_19, .ref a_20, .ref a_21, .ref a_22, .ref a_23, .int v_24, .int v_25, .int v_26, .int v_27, .int v_28, .ref a_29, .int v_30, .ref a_31, .ref a_32, .int v_33, .int v_34, .ref a_35, .int v_36, .ref a_37, .ref a_38, .int v_39, .int v_40, .ref a_41, .ref a_42, .ref a_43, .int v_44, .ref a_45, .ref a_46, .ref a_47, .ref a_48, .ref a_49, .ref a_50, .ref a_51, .ref a_52, .ref a_53, .int v_54, .int v_55, .ref a_56])) := ⟨_, rfl⟩
                                have hP : va_P (dC, dI) vwCl (va_pl L f_497) H := by rw [ef_497]; exact hP
                                have hD : va_D (fun q => q ∈ L) (va_pl L f_497) := by rw [ef_497]; exact hD
                                have hG : GI (okc cI cL cZ cR cG cH L kd) kd L f_497 := by rw [ef_497]; exact hG.set o0 (mk_12 ko0 (fo12 fa_495))
                                have hfr0 : ∀ b, kd b ≠ 12 → kd b ≠ 576 → f_497 b = f b := fun b q12 q576 => (congrFun ef_497 b).trans ((up_ne (fun e9 => q12 (by rw [e9]; exact ko0))).trans (hfr0 b q12 q576))
                                have hrA12 : ∀ b, kd b = 12 → ∀ j, fldR (f_497 b) j = fldR (f b) j := fun b kb j => ((congrArg (fun x => fldR x j) (congrFun ef_497 b)).trans (fra_up (fun j => by rw [hfo_484]; exact fr_set (k := 6) rfl rfl) j b)).trans (hrA12 b kb j)
                                have hfA12 : ∀ b, kd b = 12 → ∀ j, j ≠ 6 → j ≠ 7 → j ≠ 8 → j ≠ 11 → j ≠ 12 → j ≠ 13 → j ≠ 14 → fldI (f_497 b) j = fldI (f b) j := fun b kb j n6 n7 n8 n11 n12 n13 n14 => ((congrArg (fun x => fldI x j) (congrFun ef_497 b)).trans (fia_up (fun h9 => by rw [hfo_484]; exact fi_set (k := 6) rfl h9) n6 b)).trans (hfA12 b kb j n6 n7 n8 n11 n12 n13 n14)
                                have hT_473 : frel kd 576 7 f_497 a_2 := by rw [ef_497]; exact hT_473.keep (fun b q => up_ne (kd_ne ko0 q (by decide)))
                                have hMm_486 : (∀ z9, fldI (f_497 o0) 6 = some z9 → v_7.toInt ≤ z9.toInt) := by rw [ef_497]; exact (fun z9 h9 => by rw [up_self] at h9; obtain rfl := Option.some.inj h9; have h8 := hMm_486 v_483 (by rw [hfo_484]; rfl); omega)
                                have hfo_498 : f_497 o0 = .inr (12, [.ref a_1, .ref a_2, .ref a_3, .int v_4, .ref a_5, .int v_6, .int x_494, .int v_467, .int v_468, .int v_10, .int v_11, .int v_452, .int v_453, .int v_454, .int v_469, .ref a_16, .ref a_17, .ref a_18, .ref a_19, .ref a_20, .ref a_21, .ref a_22, .ref a_23, .int v_24, .int v_25, .int v_26, .int v_27, .int v_28, .ref a_29, .int v_30, .ref a_31, .ref a_32, .int v_33, .int v_34, .ref a_35, .int v_36, .ref a_37, .ref a_38, .int v_39, .int v_40, .ref a_41, .ref a_42, .ref a_43, .int v_44, .ref a_45, .ref a_46, .ref a_47, .ref a_48, .ref a_49, .ref a_50, .ref a_51, .ref a_52, .ref a_53, .int v_54, .int v_55, .ref a_56]) := by rw [ef_497]; exact up_self
                                refine lv_goto (tgt := 92) hx hb dX12_ruled_165 (by decide) ?_
                                exact ih_hloop_390 y_487 (by constructor <;> omega) x_475 (by constructor <;> omega) f_497 hG _ _ hP hS hD hfr0 hrA12 hfA12 hT_473 hMm_486 (by omega) (by omega) ls (lv_sub hl [0, 1, 2, 3, 4] rfl)
                            · skip
                              rw [← Int32.toInt_inj, ti_3] at c_491
                              refine lv_aload_n hx hb dX12_ruled_140 rfl (lv_at hl 4 rfl) ?_
                              refine lv_iconst (v := 3) hx hb dX12_ruled_141 (by decide) ?_
                              refine lv_aload_n hx hb dX12_ruled_142 rfl (lv_at hl 4 rfl) ?_
                              refine tk_getP (D := (dC, dI)) (ci := 12) (v := .int v_483) (C := RX12) (T := TX12) (N := 56) hx hb hU inlX12 hown hK hP mo0 hfo_484 rfl 6 (by decide) (hU _ wd_566) (fun _ h9 => h9) rfl dX12_ruled_143 ?_
                              refine tk_ViP (As := [.int 3, .int v_483]) (rest := []) (n := 2) hx hb hml hown hU hN hZ (s_X12_bad_k12 l (dC, dI) cI cL cZ cR cG cH Z kd L f_477 hG o0 mo0 ko0 3 v_483) wd_602 wd_603 wd_604 wd_5 wd_605 (by decide +kernel) ⟨Nat.le_of_ble_eq_true rfl, Nat.le_of_ble_eq_true rfl⟩ hK hP hD hS mo0 hfo_484 12 rfl rfl rfl hl.1 rfl (Nat.le_of_ble_eq_true rfl) dX12_ruled_146 ⟨Nat.le_of_ble_eq_true rfl, Nat.le_of_ble_eq_true rfl⟩ (fun x_499 f_500 H locs hw hP hD hS => ?_)
                              obtain ⟨hG, bx_499, hkc_501, hra_502, hfa_503⟩ := hw
                              have hfr0 : ∀ b, kd b ≠ 12 → kd b ≠ 576 → f_500 b = f b := fun b q12 q576 => (hkc_501 b q12).trans (hfr0 b q12 q576)
                              have hrA12 : ∀ b, kd b = 12 → ∀ j, fldR (f_500 b) j = fldR (f b) j := fun b kb j => (hra_502 b kb j).trans (hrA12 b kb j)
                              have hfA12 : ∀ b, kd b = 12 → ∀ j, j ≠ 6 → j ≠ 7 → j ≠ 8 → j ≠ 11 → j ≠ 12 → j ≠ 13 → j ≠ 14 → fldI (f_500 b) j = fldI (f b) j := fun b kb j n6 n7 n8 n11 n12 n13 n14 => (hfa_503 b kb j n7 n8).trans (hfA12 b kb j n6 n7 n8 n11 n12 n13 n14)
                              have hT_473 : frel kd 576 7 f_500 a_2 := hT_473.keep (fun b q => hkc_501 b (by rw [q]; decide))
                              have hMm_486 : (∀ z9, fldI (f_500 o0) 6 = some z9 → v_7.toInt ≤ z9.toInt) := (fun z9 h9 => hMm_486 z9 (by rw [hfa_503 o0 ko0 6 (by decide) (by decide)] at h9; exact h9))
                              obtain ⟨v_505, v_506, hfo_507, fa_508⟩ := op12_7_8 hfo_484 (hG _ mo0) ko0 (hra_502 o0 ko0) (hfa_503 o0 ko0)
                              have bv_505 : ((-2147483648) ≤ v_505.toInt ∧ v_505.toInt ≤ 2147483647) := ⟨i32_lo _, i32_hi _⟩
                              have bv_506 : ((-2147483648) ≤ v_506.toInt ∧ v_506.toInt ≤ 2147483647) := ⟨i32_lo _, i32_hi _⟩
                              have hM9 := hMm_486 v_483 (by rw [hfo_507]; rfl)
                              exact W.zret (v := x_499) (ty := .boolean) hx hb hr (zb_n (by constructor <;> omega)) (fun t ht hW => ⟨⟨x_499, f_500, rfl, ⟨hG, (by constructor <;> omega), hfr0, hrA12, hfA12, (by intro w6 z6 e6 d6; rw [hfo_57] at e6; rw [hfo_507] at d6; obtain rfl := Option.some.inj e6; obtain rfl := Option.some.inj d6; omega), (fun d9 h9 => by rw [hfo_507] at h9; obtain rfl := Option.some.inj h9; exact hT_473.weak)⟩, by rw [ht]; exact hP, va_K.moved hW.alike hK, pl_in hD⟩, hS.F ht⟩) hS.2.2 dX12_ruled_149
                        refine lv_icmp_ne (tgt := 127) hx hb dX12_ruled_120 (by decide) (fun c_509 => ?_) (fun c_509 => ?_)
                        · skip
                          rw [← Int32.toInt_inj, ti_124] at c_509
                          refine lv_iconst (v := 0) hx hb dX12_ruled_127 (by decide) ?_
                          exact hcut_488 0 (by decide) (by (try rw [ti_0]) <;> omega) ls (lv_sub hl [0, 1, 2, 3, 4] rfl)
                        · skip
                          rw [← Int32.toInt_inj, ti_124] at c_509
                          refine lv_iconst (v := 1) hx hb dX12_ruled_123 (by decide) ?_
                          refine lv_goto (tgt := 128) hx hb dX12_ruled_124 (by decide) ?_
                          exact hcut_488 1 (by decide) (by (try rw [ti_1]) <;> omega) ls (lv_sub hl [0, 1, 2, 3, 4] rfl)
                      · skip
                        rw [← Int32.toInt_inj, ti_0] at c_474
                        refine lv_iconst (v := 0) hx hb dX12_ruled_109 (by decide) ?_
                        have hM9 := hMm_472 v_466 (by rw [hfo_470]; rfl)
                        exact W.zret (v := 0) (ty := .boolean) hx hb hr rfl (fun t ht hW => ⟨⟨0, f_459, rfl, ⟨hG, (by decide), hfr0, hrA12, hfA12, (by intro w6 z6 e6 d6; rw [hfo_57] at e6; rw [hfo_470] at d6; obtain rfl := Option.some.inj e6; obtain rfl := Option.some.inj d6; (try rw [ti_0]) <;> omega), (fun d9 h9 => by rw [hfo_470] at h9; obtain rfl := Option.some.inj h9; exact hT_473.weak)⟩, by rw [ht]; exact hP, va_K.moved hW.alike hK, pl_in hD⟩, hS.F ht⟩) hS.2.2 dX12_ruled_110
                exact hloop_390 5 1 (by decide) 0 (by decide) f_383 hG _ _ hP hS hD hfr0 hrA12 hfA12 hT_80 hMm_92 (by (try rw [ti_1]) <;> (try rw [ti_0]) <;> omega) (by (try rw [ti_1]) <;> (try rw [ti_0]) <;> omega) ls hl
              · skip
                rw [← Int32.toInt_inj, ti_1] at c_378
                exfalso
                omega
          · skip
            rw [← Int32.toInt_inj, ti_0] at c_376
            refine lv_aload_n hx hb dX12_ruled_54 rfl (lv_at hl 2 rfl) ?_
            refine lv_iconst (v := 2) hx hb dX12_ruled_55 (by decide) ?_
            refine lv_aload_n hx hb dX12_ruled_56 rfl (lv_at hl 2 rfl) ?_
            refine tk_getP (D := (dC, dI)) (ci := 12) (v := .int v_89) (C := RX12) (T := TX12) (N := 56) hx hb hU inlX12 hown hK hP mo0 hfo_90 rfl 6 (by decide) (hU _ wd_566) (fun _ h9 => h9) rfl dX12_ruled_57 ?_
            refine tk_ViP (As := [.int 2, .int v_89]) (rest := []) (n := 2) hx hb hml hown hU hN hZ (s_X12_bad_k12 l (dC, dI) cI cL cZ cR cG cH Z kd L f_83 hG o0 mo0 ko0 2 v_89) wd_602 wd_603 wd_604 wd_5 wd_605 (by decide +kernel) ⟨Nat.le_of_ble_eq_true rfl, Nat.le_of_ble_eq_true rfl⟩ hK hP hD hS mo0 hfo_90 12 rfl rfl rfl hl.1 rfl (Nat.le_of_ble_eq_true rfl) dX12_ruled_60 ⟨Nat.le_of_ble_eq_true rfl, Nat.le_of_ble_eq_true rfl⟩ (fun x_510 f_511 H locs hw hP hD hS => ?_)
            obtain ⟨hG, bx_510, hkc_512, hra_513, hfa_514⟩ := hw
            have hfr0 : ∀ b, kd b ≠ 12 → kd b ≠ 576 → f_511 b = f b := fun b q12 q576 => (hkc_512 b q12).trans (hfr0 b q12 q576)
            have hrA12 : ∀ b, kd b = 12 → ∀ j, fldR (f_511 b) j = fldR (f b) j := fun b kb j => (hra_513 b kb j).trans (hrA12 b kb j)
            have hfA12 : ∀ b, kd b = 12 → ∀ j, j ≠ 6 → j ≠ 7 → j ≠ 8 → j ≠ 11 → j ≠ 12 → j ≠ 13 → j ≠ 14 → fldI (f_511 b) j = fldI (f b) j := fun b kb j n6 n7 n8 n11 n12 n13 n14 => (hfa_514 b kb j n7 n8).trans (hfA12 b kb j n6 n7 n8 n11 n12 n13 n14)
            have hT_80 : frel kd 576 7 f_511 a_2 := hT_80.keep (fun b q => hkc_512 b (by rw [q]; decide))
            have hMm_92 : (∀ z9, fldI (f_511 o0) 6 = some z9 → v_7.toInt ≤ z9.toInt) := (fun z9 h9 => hMm_92 z9 (by rw [hfa_514 o0 ko0 6 (by decide) (by decide)] at h9; exact h9))
            obtain ⟨v_516, v_517, hfo_518, fa_519⟩ := op12_7_8 hfo_90 (hG _ mo0) ko0 (hra_513 o0 ko0) (hfa_514 o0 ko0)
            have bv_516 : ((-2147483648) ≤ v_516.toInt ∧ v_516.toInt ≤ 2147483647) := ⟨i32_lo _, i32_hi _⟩
            have bv_517 : ((-2147483648) ≤ v_517.toInt ∧ v_517.toInt ≤ 2147483647) := ⟨i32_lo _, i32_hi _⟩
            have hM9 := hMm_92 v_89 (by rw [hfo_518]; rfl)
            exact W.zret (v := x_510) (ty := .boolean) hx hb hr (zb_n (by constructor <;> omega)) (fun t ht hW => ⟨⟨x_510, f_511, rfl, ⟨hG, (by constructor <;> omega), hfr0, hrA12, hfA12, (by intro w6 z6 e6 d6; rw [hfo_57] at e6; rw [hfo_518] at d6; obtain rfl := Option.some.inj e6; obtain rfl := Option.some.inj d6; omega), (fun d9 h9 => by rw [hfo_518] at h9; obtain rfl := Option.some.inj h9; exact hT_80.weak)⟩, by rw [ht]; exact hP, va_K.moved hW.alike hK, pl_in hD⟩, hS.F ht⟩) hS.2.2 dX12_ruled_63
    · skip
      rw [← Int32.toInt_inj, ti_m1] at c_93
      refine lv_aload_n hx hb dX12_ruled_27 rfl (lv_at hl 2 rfl) ?_
      refine lv_iconst (v := 1) hx hb dX12_ruled_28 (by decide) ?_
      refine lv_aload_n hx hb dX12_ruled_29 rfl (lv_at hl 2 rfl) ?_
      refine tk_getP (D := (dC, dI)) (ci := 12) (v := .int v_89) (C := RX12) (T := TX12) (N := 56) hx hb hU inlX12 hown hK hP mo0 hfo_90 rfl 6 (by decide) (hU _ wd_566) (fun _ h9 => h9) rfl dX12_ruled_30 ?_
      refine tk_ViP (As := [.int 1, .int v_89]) (rest := []) (n := 2) hx hb hml hown hU hN hZ (s_X12_bad_k12 l (dC, dI) cI cL cZ cR cG cH Z kd L f_83 hG o0 mo0 ko0 1 v_89) wd_602 wd_603 wd_604 wd_5 wd_605 (by decide +kernel) ⟨Nat.le_of_ble_eq_true rfl, Nat.le_of_ble_eq_true rfl⟩ hK hP hD hS mo0 hfo_90 12 rfl rfl rfl hl.1 rfl (Nat.le_of_ble_eq_true rfl) dX12_ruled_33 ⟨Nat.le_of_ble_eq_true rfl, Nat.le_of_ble_eq_true rfl⟩ (fun x_520 f_521 H locs hw hP hD hS => ?_)
      obtain ⟨hG, bx_520, hkc_522, hra_523, hfa_524⟩ := hw
      have hfr0 : ∀ b, kd b ≠ 12 → kd b ≠ 576 → f_521 b = f b := fun b q12 q576 => (hkc_522 b q12).trans (hfr0 b q12 q576)
      have hrA12 : ∀ b, kd b = 12 → ∀ j, fldR (f_521 b) j = fldR (f b) j := fun b kb j => (hra_523 b kb j).trans (hrA12 b kb j)
      have hfA12 : ∀ b, kd b = 12 → ∀ j, j ≠ 6 → j ≠ 7 → j ≠ 8 → j ≠ 11 → j ≠ 12 → j ≠ 13 → j ≠ 14 → fldI (f_521 b) j = fldI (f b) j := fun b kb j n6 n7 n8 n11 n12 n13 n14 => (hfa_524 b kb j n7 n8).trans (hfA12 b kb j n6 n7 n8 n11 n12 n13 n14)
      have hT_80 : frel kd 576 7 f_521 a_2 := hT_80.keep (fun b q => hkc_522 b (by rw [q]; decide))
      have hMm_92 : (∀ z9, fldI (f_521 o0) 6 = some z9 → v_7.toInt ≤ z9.toInt) := (fun z9 h9 => hMm_92 z9 (by rw [hfa_524 o0 ko0 6 (by decide) (by decide)] at h9; exact h9))
      obtain ⟨v_526, v_527, hfo_528, fa_529⟩ := op12_7_8 hfo_90 (hG _ mo0) ko0 (hra_523 o0 ko0) (hfa_524 o0 ko0)
      have bv_526 : ((-2147483648) ≤ v_526.toInt ∧ v_526.toInt ≤ 2147483647) := ⟨i32_lo _, i32_hi _⟩
      have bv_527 : ((-2147483648) ≤ v_527.toInt ∧ v_527.toInt ≤ 2147483647) := ⟨i32_lo _, i32_hi _⟩
      have hM9 := hMm_92 v_89 (by rw [hfo_528]; rfl)
      exact W.zret (v := x_520) (ty := .boolean) hx hb hr (zb_n (by constructor <;> omega)) (fun t ht hW => ⟨⟨x_520, f_521, rfl, ⟨hG, (by constructor <;> omega), hfr0, hrA12, hfA12, (by intro w6 z6 e6 d6; rw [hfo_57] at e6; rw [hfo_528] at d6; obtain rfl := Option.some.inj e6; obtain rfl := Option.some.inj d6; omega), (fun d9 h9 => by rw [hfo_528] at h9; obtain rfl := Option.some.inj h9; exact hT_80.weak)⟩, by rw [ht]; exact hP, va_K.moved hW.alike hK, pl_in hD⟩, hS.F ht⟩) hS.2.2 dX12_ruled_36
  · skip
    rw [← Int32.toInt_inj, ti_0] at c_81
    refine lv_iconst (v := 0) hx hb dX12_ruled_15 (by decide) ?_
    have hM9 := hMm_79 v_71 (by rw [hfo_77]; rfl)
    exact W.zret (v := 0) (ty := .boolean) hx hb hr rfl (fun t ht hW => ⟨⟨0, f_64, rfl, ⟨hG, (by decide), hfr0, hrA12, hfA12, (by intro w6 z6 e6 d6; rw [hfo_57] at e6; rw [hfo_77] at d6; obtain rfl := Option.some.inj e6; obtain rfl := Option.some.inj d6; (try rw [ti_0]) <;> omega), (fun d9 h9 => by rw [hfo_77] at h9; obtain rfl := Option.some.inj h9; exact hT_80.weak)⟩, by rw [ht]; exact hP, va_K.moved hW.alike hK, pl_in hD⟩, hS.F ht⟩) hS.2.2 dX12_ruled_16
