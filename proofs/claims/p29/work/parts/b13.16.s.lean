set_option maxHeartbeats 8000000 in
set_option maxRecDepth 100000 in
theorem s_X12_example_k12 (l : Launch) (D : va_G) (cI cL cZ cR cG cH : ClassId) (Z : zT) (kd : Nat → Nat) (L : List Nat) (f : Nat → va_E) (hG : GI (okc cI cL cZ cR cG cH L kd) kd L f) (o0 : Nat) (mo0 : o0 ∈ L) (ko0 : kd o0 = 12) (p1 : Int32) (bp1 : (0 ≤ p1.toInt ∧ p1.toInt ≤ 1)) : mPI l D cI cL cZ cR cG cH Z yX12_example cX12_example 7 (some .int) 1 22 [.ref o0, .int p1] L f (fun (r : Int32) (f9 : Nat → va_E) => GI (okc cI cL cZ cR cG cH L kd) kd L f9 ∧ ((-2147483648) ≤ r.toInt ∧ r.toInt ≤ 2147483647) ∧ (∀ b, kd b ≠ 12 → kd b ≠ 575 → f9 b = f b) ∧ (∀ b, kd b = 12 → ∀ j, fldR (f9 b) j = fldR (f b) j) ∧ (∀ b, kd b = 12 → ∀ j, j ≠ 5 → fldI (f9 b) j = fldI (f b) j) ∧ (∀ (w5 z5 : Int32), fldI (f o0) 5 = some w5 → fldI (f9 o0) 5 = some z5 → z5.toInt = 0)) := by
  obtain ⟨dC, dI⟩ := D
  refine Met.ofW (cc := cX12_example) (maxL := 7) (ret := (some .int)) (by decide) rfl ?_
  intro p e s m args below meth c s₁ B hml hv
  obtain ⟨rfl, hP, hK, hD0, hN, hZ⟩ := hv
  have hx := B.exec
  have hb := B.bytes
  have hr := B.returns
  have hU : ∀ w ∈ wsU, w.before _ s = true := fun w h => atoms_spec (ws := wU yX12_example cX12_example 7 (some .int)) B.pre w (List.mem_cons_of_mem _ h)
  have hown : s.vm.findClass RX12 = some m.cls := findClass_of_methodNamed B.named
  have hlocks := B.notSynchronized
  have hD := pl_in hD0
  have hS : va_S (fun q => q ∈ L) s.heap s.heap [] := va_S.rf
  have hl := lv_entry ([.ref o0, .int p1]) (n := 7) (Nat.le_of_ble_eq_true rfl)
  rw [lg_entry_eq]
  generalize (lg_sl ([.ref o0, .int p1]) ++ List.replicate (7 - (lg_sl ([.ref o0, .int p1])).length) Slot.unset).toArray = ls at hl ⊢
  have hl : lv_has ls 7 [(0, .ref o0), (1, .int p1)] := hl
  have hfr0 : ∀ b, kd b ≠ 12 → kd b ≠ 575 → f b = f b := fun _ _ _ => rfl
  have hrA12 : ∀ b, kd b = 12 → ∀ j, fldR (f b) j = fldR (f b) j := fun _ _ _ => rfl
  have hfA12 : ∀ b, kd b = 12 → ∀ j, j ≠ 5 → fldI (f b) j = fldI (f b) j := fun _ _ _ _ => rfl
  obtain ⟨a_1, a_2, a_3, v_4, a_5, v_6, v_7, v_8, v_9, v_10, v_11, v_12, v_13, v_14, v_15, a_16, a_17, a_18, a_19, a_20, a_21, a_22, a_23, v_24, v_25, v_26, v_27, v_28, a_29, v_30, a_31, a_32, v_33, v_34, a_35, v_36, a_37, a_38, v_39, v_40, a_41, a_42, a_43, v_44, a_45, a_46, a_47, a_48, a_49, a_50, a_51, a_52, a_53, v_54, v_55, a_56, hfo_57, fa_58⟩ := un12 (hG _ mo0) ko0
  obtain ⟨ma_1, ka_1⟩ := fa12_0 fa_58
  obtain ⟨ma_5, ka_5⟩ := fa12_4 fa_58
  have bv_6 : (0 ≤ v_6.toInt ∧ v_6.toInt ≤ 600) := fa12_5 fa_58
  refine lv_aload_n hx hb dX12_example_0 rfl (lv_at hl 0 rfl) ?_
  refine tk_getP (D := (dC, dI)) (ci := 12) (v := .int v_6) (C := RX12) (T := TX12) (N := 56) hx hb hU inlX12 hown hK hP mo0 hfo_57 rfl 5 (by decide) (hU _ wd_218) (fun _ h9 => h9) rfl dX12_example_1 ?_
  refine lv_istore_n (lv' := [(2, .int v_6), (0, .ref o0), (1, .int p1)]) hx hb dX12_example_4 rfl hl (by decide) rfl (fun ls hl => ?_)
  refine lv_aload_n hx hb dX12_example_5 rfl (lv_at hl 1 rfl) ?_
  refine lv_iconst (v := 0) hx hb dX12_example_6 (by decide) ?_
  refine tk_putP (D := (dC, dI)) (ci := 12) (v := .int 0) (ty := .int) (C := RX12) (T := TX12) (N := 56) hx hb hU inlX12 tyX12 tyX12_ok nmX12 hown hK hP hD hS mo0 hfo_57 rfl 5 (by decide) (hU _ wd_218) (fun _ h9 => h9) rfl (by decide +kernel) rfl rfl (Nat.le_of_ble_eq_true rfl) dX12_example_7 (fun H locs hP hD hS => ?_)
  have fa_59 := fu12_5 (y := 0) fa_58 (by decide)
  obtain ⟨f_61, ef_61⟩ : ∃ y : Nat → va_E, y = va_up f o0 (.inr (12, [.ref a_1, .ref a_2, .ref a_3, .int v_4, .ref a_5, .int 0, .int v_7, .int v_8, .int v_9, .int v_10, .int v_11, .int v_12, .int v_13, .int v_14, .int v_15, .ref a_16, .ref a_17, .ref a_18, .ref a_19, .ref a_20, .ref a_21, .ref a_22, .ref a_23, .int v_24, .int v_25, .int v_26, .int v_27, .int v_28, .ref a_29, .int v_30, .ref a_31, .ref a_32, .int v_33, .int v_34, .ref a_35, .int v_36, .ref a_37, .ref a_38, .int v_39, .int v_40, .ref a_41, .ref a_42, .ref a_43, .int v_44, .ref a_45, .ref a_46, .ref a_47, .ref a_48, .ref a_49, .ref a_50, .ref a_51, .ref a_52, .ref a_53, .int v_54, .int v_55, .ref a_56])) := ⟨_, rfl⟩
  have hP : va_P (dC, dI) vwCl (va_pl L f_61) H := by rw [ef_61]; exact hP
  have hD : va_D (fun q => q ∈ L) (va_pl L f_61) := by rw [ef_61]; exact hD
  have hG : GI (okc cI cL cZ cR cG cH L kd) kd L f_61 := by rw [ef_61]; exact hG.set o0 (mk_12 ko0 (fo12 fa_59))
  have hfr0 : ∀ b, kd b ≠ 12 → kd b ≠ 575 → f_61 b = f b := fun b q12 q575 => (congrFun ef_61 b).trans ((up_ne (fun e9 => q12 (by rw [e9]; exact ko0))).trans (hfr0 b q12 q575))
  have hrA12 : ∀ b, kd b = 12 → ∀ j, fldR (f_61 b) j = fldR (f b) j := fun b kb j => ((congrArg (fun x => fldR x j) (congrFun ef_61 b)).trans (fra_up (fun j => by rw [hfo_57]; exact fr_set (k := 5) rfl rfl) j b)).trans (hrA12 b kb j)
  have hfA12 : ∀ b, kd b = 12 → ∀ j, j ≠ 5 → fldI (f_61 b) j = fldI (f b) j := fun b kb j n5 => ((congrArg (fun x => fldI x j) (congrFun ef_61 b)).trans (fia_up (fun h9 => by rw [hfo_57]; exact fi_set (k := 5) rfl h9) n5 b)).trans (hfA12 b kb j n5)
  have hfo_62 : f_61 o0 = .inr (12, [.ref a_1, .ref a_2, .ref a_3, .int v_4, .ref a_5, .int 0, .int v_7, .int v_8, .int v_9, .int v_10, .int v_11, .int v_12, .int v_13, .int v_14, .int v_15, .ref a_16, .ref a_17, .ref a_18, .ref a_19, .ref a_20, .ref a_21, .ref a_22, .ref a_23, .int v_24, .int v_25, .int v_26, .int v_27, .int v_28, .ref a_29, .int v_30, .ref a_31, .ref a_32, .int v_33, .int v_34, .ref a_35, .int v_36, .ref a_37, .ref a_38, .int v_39, .int v_40, .ref a_41, .ref a_42, .ref a_43, .int v_44, .ref a_45, .ref a_46, .ref a_47, .ref a_48, .ref a_49, .ref a_50, .ref a_51, .ref a_52, .ref a_53, .int v_54, .int v_55, .ref a_56]) := by rw [ef_61]; exact up_self
  refine lv_aload_n hx hb dX12_example_10 rfl (lv_at hl 1 rfl) ?_
  refine tk_getP (D := (dC, dI)) (ci := 12) (v := .ref a_1) (C := RX12) (T := TX12) (N := 56) hx hb hU inlX12 hown hK hP mo0 hfo_62 rfl 0 (by decide) (hU _ wd_169) (fun _ h9 => h9) rfl dX12_example_11 ?_
  refine lv_bipush (v := 42) hx hb dX12_example_14 (by decide) ?_
  obtain ⟨g_64, hfo_63, hbg_64⟩ := un_575 (hG _ ma_1) ka_1
  refine tk_ildP hx hb hK hP 0 ma_1 hfo_63 rfl (vp_in_nI (n := 42) (by decide) (by decide)) dX12_example_16 ?_
  refine lv_topi (fun x_65 ex_65 => ?_)
  have bx_65 : (0 ≤ x_65.toInt ∧ x_65.toInt ≤ 12) := by rw [ex_65]; exact hbg_64.2.2.2.2.2.2.2.2.1 _ (by decide) (by decide) (by decide)
  refine lv_bipush (v := 12) hx hb dX12_example_17 (by decide) ?_
  refine lv_icmp_ne (tgt := 24) hx hb dX12_example_19 (by decide) (fun c_66 => ?_) (fun c_66 => ?_)
  · skip
    rw [← Int32.toInt_inj, ti_12] at c_66
    have hTt_67 : wrel kd 575 42 11 f_61 a_1 := wrel.mk ka_1 hfo_63 (by have h7 : x_65.toInt = (g_64 42).toInt := (by rw [ex_65]; rfl); omega)
    refine lv_sipush (v := 220) hx hb dX12_example_24 (by decide) ?_
    refine lv_bipush (v := 20) hx hb dX12_example_27 (by decide) ?_
    refine lv_aload_n hx hb dX12_example_29 rfl (lv_at hl 1 rfl) ?_
    refine tk_getP (D := (dC, dI)) (ci := 12) (v := .ref a_1) (C := RX12) (T := TX12) (N := 56) hx hb hU inlX12 hown hK hP mo0 hfo_62 rfl 0 (by decide) (hU _ wd_169) (fun _ h9 => h9) rfl dX12_example_30 ?_
    refine lv_bipush (v := 42) hx hb dX12_example_33 (by decide) ?_
    refine tk_ildP hx hb hK hP 0 ma_1 hfo_63 rfl (vp_in_nI (n := 42) (by decide) (by decide)) dX12_example_35 ?_
    refine tk_topi (y := x_65) ex_65.symm ?_
    refine lv_imul hx hb dX12_example_36 ?_
    refine lv_topi (fun x_68 ex_68 => ?_)
    have hx_68 : x_68.toInt = 20 * x_65.toInt := by rw [ex_68, ml_I (by rw [ti_20]; omega) (by rw [ti_20]; omega), ti_20]
    have bx_68 : (0 ≤ x_68.toInt ∧ x_68.toInt ≤ 220) := by constructor <;> omega
    refine lv_iadd hx hb dX12_example_37 ?_
    refine lv_topi (fun x_69 ex_69 => ?_)
    have hx_69 : x_69.toInt = 220 + x_68.toInt := by rw [ex_69, ad_I (by rw [ti_220]; omega) (by rw [ti_220]; omega), ti_220]
    have bx_69 : (220 ≤ x_69.toInt ∧ x_69.toInt ≤ 440) := by constructor <;> omega
    refine lv_istore_n (lv' := [(3, .int x_69), (2, .int v_6), (0, .ref o0), (1, .int p1)]) hx hb dX12_example_38 rfl hl (by decide) rfl (fun ls hl => ?_)
    refine lv_iconst (v := 0) hx hb dX12_example_39 (by decide) ?_
    refine lv_istore (lv' := [(4, .int 0), (3, .int x_69), (2, .int v_6), (0, .ref o0), (1, .int p1)]) hx hb dX12_example_40 hl (by decide) rfl (fun ls hl => ?_)
    refine lv_aload_n hx hb dX12_example_42 rfl (lv_at hl 3 rfl) ?_
    refine tk_getP (D := (dC, dI)) (ci := 12) (v := .ref a_1) (C := RX12) (T := TX12) (N := 56) hx hb hU inlX12 hown hK hP mo0 hfo_62 rfl 0 (by decide) (hU _ wd_169) (fun _ h9 => h9) rfl dX12_example_43 ?_
    refine lv_iload_n hx hb dX12_example_46 rfl (lv_at hl 1 rfl) ?_
    refine lv_iconst (v := 1) hx hb dX12_example_47 (by decide) ?_
    refine lv_iadd hx hb dX12_example_48 ?_
    refine lv_topi (fun x_70 ex_70 => ?_)
    have hx_70 : x_70.toInt = x_69.toInt + 1 := by rw [ex_70, ad_I (by rw [ti_1]; omega) (by rw [ti_1]; omega), ti_1]
    have bx_70 : (221 ≤ x_70.toInt ∧ x_70.toInt ≤ 441) := by constructor <;> omega
    refine lv_iconst (v := 0) hx hb dX12_example_49 (by decide) ?_
    refine tk_istP hx hb hK hP hD hS 0 ma_1 hfo_63 rfl (vp_in_iff.mpr (by constructor <;> omega)) dX12_example_50 (fun H locs hP hD hS => ?_)
    have hc9 := cl_I (i := x_70) (by omega)
    obtain ⟨g_71, eqg_71⟩ : ∃ y : Nat → Int32, y = upd g_64 (Int32.toNatClampNeg x_70) 0 := ⟨_, rfl⟩
    rw [← eqg_71] at hP hD
    have hbg_71 : wOK g_71 := by rw [eqg_71]; exact ⟨hbg_64.1.up (fun h1 h2 h3 => by exfalso; omega), hbg_64.2.1.up (fun h1 h2 h3 => by exfalso; omega), hbg_64.2.2.1.up (fun h1 h2 h3 => by exfalso; omega), hbg_64.2.2.2.1.up (fun h1 h2 h3 => by exfalso; omega), hbg_64.2.2.2.2.1.up (fun h1 h2 h3 => by exfalso; omega), hbg_64.2.2.2.2.2.1.up (fun h1 h2 h3 => by exfalso; omega), hbg_64.2.2.2.2.2.2.1.up (fun h1 h2 h3 => by exfalso; omega), hbg_64.2.2.2.2.2.2.2.1.up (fun h1 h2 h3 => by exfalso; omega), hbg_64.2.2.2.2.2.2.2.2.1.up (fun h1 h2 h3 => by exfalso; omega), hbg_64.2.2.2.2.2.2.2.2.2.1.up (fun h1 h2 h3 => by exfalso; omega), hbg_64.2.2.2.2.2.2.2.2.2.2.1.up (fun h1 h2 h3 => by (try rw [ti_0]); constructor <;> omega), hbg_64.2.2.2.2.2.2.2.2.2.2.2.1.up (fun h1 h2 h3 => by exfalso; omega), hbg_64.2.2.2.2.2.2.2.2.2.2.2.2.1.up (fun h1 h2 h3 => by exfalso; omega), hbg_64.2.2.2.2.2.2.2.2.2.2.2.2.2.1.up (fun h1 h2 h3 => by exfalso; omega), hbg_64.2.2.2.2.2.2.2.2.2.2.2.2.2.2.1.up (fun h1 h2 h3 => by exfalso; omega), hbg_64.2.2.2.2.2.2.2.2.2.2.2.2.2.2.2.up (fun h1 h2 h3 => by exfalso; omega)⟩
    obtain ⟨f_73, ef_73⟩ : ∃ y : Nat → va_E, y = va_up f_61 a_1 (.inl (cI, 1560, .inl g_71)) := ⟨_, rfl⟩
    have hP : va_P (dC, dI) vwCl (va_pl L f_73) H := by rw [ef_73]; exact hP
    have hD : va_D (fun q => q ∈ L) (va_pl L f_73) := by rw [ef_73]; exact hD
    have hG : GI (okc cI cL cZ cR cG cH L kd) kd L f_73 := by rw [ef_73]; exact hG.set a_1 (mk_575 ka_1 ⟨_, rfl, hbg_71⟩)
    have hfo_74 : f_73 o0 = .inr (12, [.ref a_1, .ref a_2, .ref a_3, .int v_4, .ref a_5, .int 0, .int v_7, .int v_8, .int v_9, .int v_10, .int v_11, .int v_12, .int v_13, .int v_14, .int v_15, .ref a_16, .ref a_17, .ref a_18, .ref a_19, .ref a_20, .ref a_21, .ref a_22, .ref a_23, .int v_24, .int v_25, .int v_26, .int v_27, .int v_28, .ref a_29, .int v_30, .ref a_31, .ref a_32, .int v_33, .int v_34, .ref a_35, .int v_36, .ref a_37, .ref a_38, .int v_39, .int v_40, .ref a_41, .ref a_42, .ref a_43, .int v_44, .ref a_45, .ref a_46, .ref a_47, .ref a_48, .ref a_49, .ref a_50, .ref a_51, .ref a_52, .ref a_53, .int v_54, .int v_55, .ref a_56]) := by rw [ef_73, up_ne (kd_ne ka_1 ko0 (by decide))]; exact hfo_62
    have hfr0 : ∀ b, kd b ≠ 12 → kd b ≠ 575 → f_73 b = f b := fun b q12 q575 => (congrFun ef_73 b).trans ((up_ne (fun e9 => q575 (by rw [e9]; exact ka_1))).trans (hfr0 b q12 q575))
    have hrA12 : ∀ b, kd b = 12 → ∀ j, fldR (f_73 b) j = fldR (f b) j := fun b kb j => (congrArg (fun x => fldR x j) ((congrFun ef_73 b).trans (up_ne (kd_ne ka_1 kb (by decide))))).trans (hrA12 b kb j)
    have hfA12 : ∀ b, kd b = 12 → ∀ j, j ≠ 5 → fldI (f_73 b) j = fldI (f b) j := fun b kb j n5 => (congrArg (fun x => fldI x j) ((congrFun ef_73 b).trans (up_ne (kd_ne ka_1 kb (by decide))))).trans (hfA12 b kb j n5)
    have hTt_67 : wrel kd 575 42 11 f_73 a_1 := by rw [ef_73]; exact wrel.mk ka_1 up_self (by rw [eqg_71, pk_un (by omega)]; exact hTt_67.get hfo_63)
    have hfo_75 : f_73 a_1 = .inl (cI, 1560, .inl g_71) := by rw [ef_73]; exact up_self
    have ql_76 : x_65 = g_71 (Int32.toNatClampNeg 42) := by rw [eqg_71, pk_un (by have hc8 : Int32.toNatClampNeg 42 = 42 := rfl; omega)]; exact ex_65
    have ql_77 : 0 = g_71 (Int32.toNatClampNeg x_70) := by rw [eqg_71, pk_us]
    refine lv_aload_n hx hb dX12_example_51 rfl (lv_at hl 3 rfl) ?_
    refine tk_getP (D := (dC, dI)) (ci := 12) (v := .ref a_1) (C := RX12) (T := TX12) (N := 56) hx hb hU inlX12 hown hK hP mo0 hfo_74 rfl 0 (by decide) (hU _ wd_169) (fun _ h9 => h9) rfl dX12_example_52 ?_
    refine lv_iload_n hx hb dX12_example_55 rfl (lv_at hl 1 rfl) ?_
    refine lv_iconst (v := 2) hx hb dX12_example_56 (by decide) ?_
    refine lv_iadd hx hb dX12_example_57 ?_
    refine lv_topi (fun x_78 ex_78 => ?_)
    have hx_78 : x_78.toInt = x_69.toInt + 2 := by rw [ex_78, ad_I (by rw [ti_2]; omega) (by rw [ti_2]; omega), ti_2]
    have bx_78 : (222 ≤ x_78.toInt ∧ x_78.toInt ≤ 442) := by constructor <;> omega
    refine lv_iconst (v := 0) hx hb dX12_example_58 (by decide) ?_
    refine tk_istP hx hb hK hP hD hS 0 ma_1 hfo_75 rfl (vp_in_iff.mpr (by constructor <;> omega)) dX12_example_59 (fun H locs hP hD hS => ?_)
    have hc9 := cl_I (i := x_78) (by omega)
    obtain ⟨g_79, eqg_79⟩ : ∃ y : Nat → Int32, y = upd g_71 (Int32.toNatClampNeg x_78) 0 := ⟨_, rfl⟩
    rw [← eqg_79] at hP hD
    have hbg_79 : wOK g_79 := by rw [eqg_79]; exact ⟨hbg_71.1.up (fun h1 h2 h3 => by exfalso; omega), hbg_71.2.1.up (fun h1 h2 h3 => by exfalso; omega), hbg_71.2.2.1.up (fun h1 h2 h3 => by exfalso; omega), hbg_71.2.2.2.1.up (fun h1 h2 h3 => by exfalso; omega), hbg_71.2.2.2.2.1.up (fun h1 h2 h3 => by exfalso; omega), hbg_71.2.2.2.2.2.1.up (fun h1 h2 h3 => by exfalso; omega), hbg_71.2.2.2.2.2.2.1.up (fun h1 h2 h3 => by exfalso; omega), hbg_71.2.2.2.2.2.2.2.1.up (fun h1 h2 h3 => by exfalso; omega), hbg_71.2.2.2.2.2.2.2.2.1.up (fun h1 h2 h3 => by exfalso; omega), hbg_71.2.2.2.2.2.2.2.2.2.1.up (fun h1 h2 h3 => by exfalso; omega), hbg_71.2.2.2.2.2.2.2.2.2.2.1.up (fun h1 h2 h3 => by (try rw [ti_0]); constructor <;> omega), hbg_71.2.2.2.2.2.2.2.2.2.2.2.1.up (fun h1 h2 h3 => by exfalso; omega), hbg_71.2.2.2.2.2.2.2.2.2.2.2.2.1.up (fun h1 h2 h3 => by exfalso; omega), hbg_71.2.2.2.2.2.2.2.2.2.2.2.2.2.1.up (fun h1 h2 h3 => by exfalso; omega), hbg_71.2.2.2.2.2.2.2.2.2.2.2.2.2.2.1.up (fun h1 h2 h3 => by exfalso; omega), hbg_71.2.2.2.2.2.2.2.2.2.2.2.2.2.2.2.up (fun h1 h2 h3 => by exfalso; omega)⟩
    obtain ⟨f_81, ef_81⟩ : ∃ y : Nat → va_E, y = va_up f_73 a_1 (.inl (cI, 1560, .inl g_79)) := ⟨_, rfl⟩
    have hP : va_P (dC, dI) vwCl (va_pl L f_81) H := by rw [ef_81]; exact hP
    have hD : va_D (fun q => q ∈ L) (va_pl L f_81) := by rw [ef_81]; exact hD
    have hG : GI (okc cI cL cZ cR cG cH L kd) kd L f_81 := by rw [ef_81]; exact hG.set a_1 (mk_575 ka_1 ⟨_, rfl, hbg_79⟩)
    have hfo_82 : f_81 o0 = .inr (12, [.ref a_1, .ref a_2, .ref a_3, .int v_4, .ref a_5, .int 0, .int v_7, .int v_8, .int v_9, .int v_10, .int v_11, .int v_12, .int v_13, .int v_14, .int v_15, .ref a_16, .ref a_17, .ref a_18, .ref a_19, .ref a_20, .ref a_21, .ref a_22, .ref a_23, .int v_24, .int v_25, .int v_26, .int v_27, .int v_28, .ref a_29, .int v_30, .ref a_31, .ref a_32, .int v_33, .int v_34, .ref a_35, .int v_36, .ref a_37, .ref a_38, .int v_39, .int v_40, .ref a_41, .ref a_42, .ref a_43, .int v_44, .ref a_45, .ref a_46, .ref a_47, .ref a_48, .ref a_49, .ref a_50, .ref a_51, .ref a_52, .ref a_53, .int v_54, .int v_55, .ref a_56]) := by rw [ef_81, up_ne (kd_ne ka_1 ko0 (by decide))]; exact hfo_74
    have hfr0 : ∀ b, kd b ≠ 12 → kd b ≠ 575 → f_81 b = f b := fun b q12 q575 => (congrFun ef_81 b).trans ((up_ne (fun e9 => q575 (by rw [e9]; exact ka_1))).trans (hfr0 b q12 q575))
    have hrA12 : ∀ b, kd b = 12 → ∀ j, fldR (f_81 b) j = fldR (f b) j := fun b kb j => (congrArg (fun x => fldR x j) ((congrFun ef_81 b).trans (up_ne (kd_ne ka_1 kb (by decide))))).trans (hrA12 b kb j)
    have hfA12 : ∀ b, kd b = 12 → ∀ j, j ≠ 5 → fldI (f_81 b) j = fldI (f b) j := fun b kb j n5 => (congrArg (fun x => fldI x j) ((congrFun ef_81 b).trans (up_ne (kd_ne ka_1 kb (by decide))))).trans (hfA12 b kb j n5)
    have hTt_67 : wrel kd 575 42 11 f_81 a_1 := by rw [ef_81]; exact wrel.mk ka_1 up_self (by rw [eqg_79, pk_un (by omega)]; exact hTt_67.get hfo_75)
    have hfo_83 : f_81 a_1 = .inl (cI, 1560, .inl g_79) := by rw [ef_81]; exact up_self
    have ql_84 : x_65 = g_79 (Int32.toNatClampNeg 42) := by rw [eqg_79, pk_un (by have hc8 : Int32.toNatClampNeg 42 = 42 := rfl; omega)]; exact ql_76
    have ql_85 : 0 = g_79 (Int32.toNatClampNeg x_78) := by rw [eqg_79, pk_us]
    refine lv_iconst (v := 0) hx hb dX12_example_60 (by decide) ?_
    refine lv_istore (lv' := [(5, .int 0), (4, .int 0), (3, .int x_69), (2, .int v_6), (0, .ref o0), (1, .int p1)]) hx hb dX12_example_61 hl (by decide) rfl (fun ls hl => ?_)
    have hloop_93 : ∀ (n : Nat), ∀ (y_94 : Int32), (0 ≤ y_94.toInt ∧ y_94.toInt ≤ 600) → ∀ (y_95 : Int32), (0 ≤ y_95.toInt ∧ y_95.toInt ≤ 1) → ∀ (f_97 : Nat → va_E), GI (okc cI cL cZ cR cG cH L kd) kd L f_97 → ∀ (H : Heap) (locs : List Loc), va_P (dC, dI) vwCl (va_pl L f_97) H → va_S (fun q => q ∈ L) s.heap H locs → va_D (fun q => q ∈ L) (va_pl L f_97) → (∀ b, kd b ≠ 12 → kd b ≠ 575 → f_97 b = f b) → (∀ b, kd b = 12 → ∀ j, fldR (f_97 b) j = fldR (f b) j) → (∀ b, kd b = 12 → ∀ j, j ≠ 5 → fldI (f_97 b) j = fldI (f b) j) → (f_97 o0 = .inr (12, [.ref a_1, .ref a_2, .ref a_3, .int v_4, .ref a_5, .int 0, .int v_7, .int v_8, .int v_9, .int v_10, .int v_11, .int v_12, .int v_13, .int v_14, .int v_15, .ref a_16, .ref a_17, .ref a_18, .ref a_19, .ref a_20, .ref a_21, .ref a_22, .ref a_23, .int v_24, .int v_25, .int v_26, .int v_27, .int v_28, .ref a_29, .int v_30, .ref a_31, .ref a_32, .int v_33, .int v_34, .ref a_35, .int v_36, .ref a_37, .ref a_38, .int v_39, .int v_40, .ref a_41, .ref a_42, .ref a_43, .int v_44, .ref a_45, .ref a_46, .ref a_47, .ref a_48, .ref a_49, .ref a_50, .ref a_51, .ref a_52, .ref a_53, .int v_54, .int v_55, .ref a_56])) → wrel kd 575 42 11 f_97 a_1 → 600 - y_94.toInt < (n : Int) → ∀ (ls : Array Slot), lv_has ls 7 [(5, .int y_94), (4, .int y_95), (3, .int x_69), (2, .int v_6), (0, .ref o0), (1, .int p1)] → W p l e (headSpec (wU yX12_example cX12_example 7 (some .int)) { frames := 1, cells := 0, slots := 0, locals := 22 }).room s m [.ref o0, .int p1].toArray below meth c H locs 0 0 (MQ below (va_Qi (fun (r : Int32) (f9 : Nat → va_E) => GI (okc cI cL cZ cR cG cH L kd) kd L f9 ∧ ((-2147483648) ≤ r.toInt ∧ r.toInt ≤ 2147483647) ∧ (∀ b, kd b ≠ 12 → kd b ≠ 575 → f9 b = f b) ∧ (∀ b, kd b = 12 → ∀ j, fldR (f9 b) j = fldR (f b) j) ∧ (∀ b, kd b = 12 → ∀ j, j ≠ 5 → fldI (f9 b) j = fldI (f b) j) ∧ (∀ (w5 z5 : Int32), fldI (f o0) 5 = some w5 → fldI (f9 o0) 5 = some z5 → z5.toInt = 0)) (qP (dC, dI) cI cL cZ cR cG cH L) (fun q => q ∈ L)) [.ref o0, .int p1].toArray s 0 0 (fun q => q ∈ L)) (F0 m 63 ls []) := by
      intro n
      induction n with
      | zero => intro y_94 by_94 y_95 by_95 f_97 hG H locs hP hS hD hfr0 hrA12 hfA12 hfo_98 hTt_67 hmuhloop_93 ls hl; exfalso; omega
      | succ n ih_hloop_93 =>
        intro y_94 by_94 y_95 by_95 f_97 hG H locs hP hS hD hfr0 hrA12 hfA12 hfo_98 hTt_67 hmuhloop_93 ls hl
        refine lv_iload hx hb dX12_example_63 (lv_at hl 0 rfl) ?_
        refine lv_iload_n hx hb dX12_example_65 rfl (lv_at hl 3 rfl) ?_
        refine lv_icmp_ge (tgt := 180) hx hb dX12_example_66 (by decide) (fun c_99 => ?_) (fun c_99 => ?_)
        · skip
          rw [Int32.le_iff_toInt_le] at c_99
          refine lv_iload hx hb dX12_example_180 (lv_at hl 1 rfl) ?_
          refine lv_if_eq (tgt := 205) hx hb dX12_example_182 (by decide) (fun c_100 => ?_) (fun c_100 => ?_)
          · skip
            rw [← Int32.toInt_inj, ti_0] at c_100
            refine lv_iconst (v := (-1)) hx hb dX12_example_205 (by decide) ?_
            exact W.iret (v := (-1)) hx hb hr (fun t ht hW => ⟨⟨(-1), f_97, rfl, ⟨hG, (by decide), hfr0, hrA12, hfA12, (by intro w5 z5 e5 d5; rw [hfo_57] at e5; rw [hfo_98] at d5; obtain rfl := Option.some.inj e5; obtain rfl := Option.some.inj d5; (try rw [ti_0]) <;> (try rw [ti_m1]) <;> omega)⟩, by rw [ht]; exact hP, va_K.moved hW.alike hK, pl_in hD⟩, hS.F ht⟩) hS.2.2 dX12_example_206
          · skip
            rw [← Int32.toInt_inj, ti_0] at c_100
            refine lv_aload_n hx hb dX12_example_185 rfl (lv_at hl 4 rfl) ?_
            refine tk_getP (D := (dC, dI)) (ci := 12) (v := .ref a_1) (C := RX12) (T := TX12) (N := 56) hx hb hU inlX12 hown hK hP mo0 hfo_98 rfl 0 (by decide) (hU _ wd_169) (fun _ h9 => h9) rfl dX12_example_186 ?_
            refine lv_iload_n hx hb dX12_example_189 rfl (lv_at hl 2 rfl) ?_
            refine lv_iconst (v := 1) hx hb dX12_example_190 (by decide) ?_
            refine lv_iadd hx hb dX12_example_191 ?_
            refine lv_topi (fun x_101 ex_101 => ?_)
            have hx_101 : x_101.toInt = x_69.toInt + 1 := by rw [ex_101, ad_I (by rw [ti_1]; omega) (by rw [ti_1]; omega), ti_1]
            have bx_101 : (221 ≤ x_101.toInt ∧ x_101.toInt ≤ 441) := by constructor <;> omega
            obtain ⟨g_103, hfo_102, hbg_103⟩ := un_575 (hG _ ma_1) ka_1
            refine tk_ildP hx hb hK hP 0 ma_1 hfo_102 rfl (vp_in_iff.mpr (by constructor <;> omega)) dX12_example_192 ?_
            refine lv_topi (fun x_104 ex_104 => ?_)
            have bx_104 : (0 ≤ x_104.toInt ∧ x_104.toInt ≤ 8) := by have hc9 := cl_I (i := x_101) (by omega); rw [ex_104]; exact hbg_103.2.2.2.2.2.2.2.2.2.2.1 _ (by omega) (by omega) (by omega)
            refine lv_aload_n hx hb dX12_example_193 rfl (lv_at hl 4 rfl) ?_
            refine tk_getP (D := (dC, dI)) (ci := 12) (v := .ref a_1) (C := RX12) (T := TX12) (N := 56) hx hb hU inlX12 hown hK hP mo0 hfo_98 rfl 0 (by decide) (hU _ wd_169) (fun _ h9 => h9) rfl dX12_example_194 ?_
            refine lv_iload_n hx hb dX12_example_197 rfl (lv_at hl 2 rfl) ?_
            refine lv_iconst (v := 2) hx hb dX12_example_198 (by decide) ?_
            refine lv_iadd hx hb dX12_example_199 ?_
            refine lv_topi (fun x_105 ex_105 => ?_)
            have hx_105 : x_105.toInt = x_69.toInt + 2 := by rw [ex_105, ad_I (by rw [ti_2]; omega) (by rw [ti_2]; omega), ti_2]
            have bx_105 : (222 ≤ x_105.toInt ∧ x_105.toInt ≤ 442) := by constructor <;> omega
            refine tk_ildP hx hb hK hP 0 ma_1 hfo_102 rfl (vp_in_iff.mpr (by constructor <;> omega)) dX12_example_200 ?_
            refine lv_topi (fun x_106 ex_106 => ?_)
            have bx_106 : (0 ≤ x_106.toInt ∧ x_106.toInt ≤ 8) := by have hc9 := cl_I (i := x_105) (by omega); rw [ex_106]; exact hbg_103.2.2.2.2.2.2.2.2.2.2.1 _ (by omega) (by omega) (by omega)
            refine lv_iadd hx hb dX12_example_201 ?_
            refine lv_topi (fun x_107 ex_107 => ?_)
            have hx_107 : x_107.toInt = x_104.toInt + x_106.toInt := by rw [ex_107, ad_I (by omega) (by omega)]
            have bx_107 : (0 ≤ x_107.toInt ∧ x_107.toInt ≤ 16) := by constructor <;> omega
            refine lv_if_ne (tgt := 207) hx hb dX12_example_202 (by decide) (fun c_108 => ?_) (fun c_108 => ?_)
            · skip
              rw [← Int32.toInt_inj, ti_0] at c_108
              refine lv_aload_n hx hb dX12_example_207 rfl (lv_at hl 4 rfl) ?_
              refine tk_getP (D := (dC, dI)) (ci := 12) (v := .ref a_1) (C := RX12) (T := TX12) (N := 56) hx hb hU inlX12 hown hK hP mo0 hfo_98 rfl 0 (by decide) (hU _ wd_169) (fun _ h9 => h9) rfl dX12_example_208 ?_
              refine lv_iload_n hx hb dX12_example_211 rfl (lv_at hl 2 rfl) ?_
              refine lv_iload_n hx hb dX12_example_212 rfl (lv_at hl 5 rfl) ?_
              refine lv_if_eq (tgt := 220) hx hb dX12_example_213 (by decide) (fun c_109 => ?_) (fun c_109 => ?_)
              · skip
                rw [← Int32.toInt_inj, ti_0] at c_109
                refine lv_iconst (v := 0) hx hb dX12_example_220 (by decide) ?_
                refine tk_istP hx hb hK hP hD hS 0 ma_1 hfo_102 rfl (vp_in_iff.mpr (by constructor <;> omega)) dX12_example_221 (fun H locs hP hD hS => ?_)
                have hc9 := cl_I (i := x_69) (by omega)
                obtain ⟨g_110, eqg_110⟩ : ∃ y : Nat → Int32, y = upd g_103 (Int32.toNatClampNeg x_69) 0 := ⟨_, rfl⟩
                rw [← eqg_110] at hP hD
                have hbg_110 : wOK g_110 := by rw [eqg_110]; exact ⟨hbg_103.1.up (fun h1 h2 h3 => by exfalso; omega), hbg_103.2.1.up (fun h1 h2 h3 => by exfalso; omega), hbg_103.2.2.1.up (fun h1 h2 h3 => by exfalso; omega), hbg_103.2.2.2.1.up (fun h1 h2 h3 => by exfalso; omega), hbg_103.2.2.2.2.1.up (fun h1 h2 h3 => by exfalso; omega), hbg_103.2.2.2.2.2.1.up (fun h1 h2 h3 => by exfalso; omega), hbg_103.2.2.2.2.2.2.1.up (fun h1 h2 h3 => by exfalso; omega), hbg_103.2.2.2.2.2.2.2.1.up (fun h1 h2 h3 => by exfalso; omega), hbg_103.2.2.2.2.2.2.2.2.1.up (fun h1 h2 h3 => by exfalso; omega), hbg_103.2.2.2.2.2.2.2.2.2.1.up (fun h1 h2 h3 => by exfalso; omega), hbg_103.2.2.2.2.2.2.2.2.2.2.1.up (fun h1 h2 h3 => by (try rw [ti_0]); constructor <;> omega), hbg_103.2.2.2.2.2.2.2.2.2.2.2.1.up (fun h1 h2 h3 => by exfalso; omega), hbg_103.2.2.2.2.2.2.2.2.2.2.2.2.1.up (fun h1 h2 h3 => by exfalso; omega), hbg_103.2.2.2.2.2.2.2.2.2.2.2.2.2.1.up (fun h1 h2 h3 => by exfalso; omega), hbg_103.2.2.2.2.2.2.2.2.2.2.2.2.2.2.1.up (fun h1 h2 h3 => by exfalso; omega), hbg_103.2.2.2.2.2.2.2.2.2.2.2.2.2.2.2.up (fun h1 h2 h3 => by exfalso; omega)⟩
                obtain ⟨f_112, ef_112⟩ : ∃ y : Nat → va_E, y = va_up f_97 a_1 (.inl (cI, 1560, .inl g_110)) := ⟨_, rfl⟩
                have hP : va_P (dC, dI) vwCl (va_pl L f_112) H := by rw [ef_112]; exact hP
                have hD : va_D (fun q => q ∈ L) (va_pl L f_112) := by rw [ef_112]; exact hD
                have hG : GI (okc cI cL cZ cR cG cH L kd) kd L f_112 := by rw [ef_112]; exact hG.set a_1 (mk_575 ka_1 ⟨_, rfl, hbg_110⟩)
                have hfo_113 : f_112 o0 = .inr (12, [.ref a_1, .ref a_2, .ref a_3, .int v_4, .ref a_5, .int 0, .int v_7, .int v_8, .int v_9, .int v_10, .int v_11, .int v_12, .int v_13, .int v_14, .int v_15, .ref a_16, .ref a_17, .ref a_18, .ref a_19, .ref a_20, .ref a_21, .ref a_22, .ref a_23, .int v_24, .int v_25, .int v_26, .int v_27, .int v_28, .ref a_29, .int v_30, .ref a_31, .ref a_32, .int v_33, .int v_34, .ref a_35, .int v_36, .ref a_37, .ref a_38, .int v_39, .int v_40, .ref a_41, .ref a_42, .ref a_43, .int v_44, .ref a_45, .ref a_46, .ref a_47, .ref a_48, .ref a_49, .ref a_50, .ref a_51, .ref a_52, .ref a_53, .int v_54, .int v_55, .ref a_56]) := by rw [ef_112, up_ne (kd_ne ka_1 ko0 (by decide))]; exact hfo_98
                have hfr0 : ∀ b, kd b ≠ 12 → kd b ≠ 575 → f_112 b = f b := fun b q12 q575 => (congrFun ef_112 b).trans ((up_ne (fun e9 => q575 (by rw [e9]; exact ka_1))).trans (hfr0 b q12 q575))
                have hrA12 : ∀ b, kd b = 12 → ∀ j, fldR (f_112 b) j = fldR (f b) j := fun b kb j => (congrArg (fun x => fldR x j) ((congrFun ef_112 b).trans (up_ne (kd_ne ka_1 kb (by decide))))).trans (hrA12 b kb j)
                have hfA12 : ∀ b, kd b = 12 → ∀ j, j ≠ 5 → fldI (f_112 b) j = fldI (f b) j := fun b kb j n5 => (congrArg (fun x => fldI x j) ((congrFun ef_112 b).trans (up_ne (kd_ne ka_1 kb (by decide))))).trans (hfA12 b kb j n5)
                have hTt_67 : wrel kd 575 42 11 f_112 a_1 := by rw [ef_112]; exact wrel.mk ka_1 up_self (by rw [eqg_110, pk_un (by omega)]; exact hTt_67.get hfo_102)
                have hfo_114 : f_112 a_1 = .inl (cI, 1560, .inl g_110) := by rw [ef_112]; exact up_self
                have ql_115 : 0 = g_110 (Int32.toNatClampNeg x_69) := by rw [eqg_110, pk_us]
                refine lv_aload_n hx hb dX12_example_222 rfl (lv_at hl 4 rfl) ?_
                refine tk_getP (D := (dC, dI)) (ci := 12) (v := .ref a_1) (C := RX12) (T := TX12) (N := 56) hx hb hU inlX12 hown hK hP mo0 hfo_113 rfl 0 (by decide) (hU _ wd_169) (fun _ h9 => h9) rfl dX12_example_223 ?_
                refine lv_bipush (v := 42) hx hb dX12_example_226 (by decide) ?_
                refine lv_dup2_11 hx hb dX12_example_228 rfl rfl ?_
                refine tk_ildP hx hb hK hP 0 ma_1 hfo_114 rfl (vp_in_nI (n := 42) (by decide) (by decide)) dX12_example_229 ?_
                refine lv_topi (fun x_116 ex_116 => ?_)
                have bx_116 : (0 ≤ x_116.toInt ∧ x_116.toInt ≤ 12) := by rw [ex_116]; exact hbg_110.2.2.2.2.2.2.2.2.1 _ (by decide) (by decide) (by decide)
                have hnrc_117 : (0 ≤ x_116.toInt ∧ x_116.toInt ≤ 11) := by have hq1 := hTt_67.get hfo_114; have hq2 : x_116.toInt = (g_110 42).toInt := (by rw [ex_116]; rfl); constructor <;> omega
                refine lv_iconst (v := 1) hx hb dX12_example_230 (by decide) ?_
                refine lv_iadd hx hb dX12_example_231 ?_
                refine lv_topi (fun x_118 ex_118 => ?_)
                have hx_118 : x_118.toInt = x_116.toInt + 1 := by rw [ex_118, ad_I (by rw [ti_1]; omega) (by rw [ti_1]; omega), ti_1]
                have bx_118 : (1 ≤ x_118.toInt ∧ x_118.toInt ≤ 12) := by constructor <;> omega
                refine tk_istP hx hb hK hP hD hS 0 ma_1 hfo_114 rfl (vp_in_nI (n := 42) (by decide) (by decide)) dX12_example_232 (fun H locs hP hD hS => ?_)
                have hc9 : ((Int32.toNatClampNeg 42 : Nat) : Int) = 42 := by decide
                obtain ⟨g_119, eqg_119⟩ : ∃ y : Nat → Int32, y = upd g_110 (Int32.toNatClampNeg 42) x_118 := ⟨_, rfl⟩
                rw [← eqg_119] at hP hD
                have hbg_119 : wOK g_119 := by rw [eqg_119]; exact ⟨hbg_110.1.up (fun h1 h2 h3 => by exfalso; omega), hbg_110.2.1.up (fun h1 h2 h3 => by exfalso; omega), hbg_110.2.2.1.up (fun h1 h2 h3 => by exfalso; omega), hbg_110.2.2.2.1.up (fun h1 h2 h3 => by exfalso; omega), hbg_110.2.2.2.2.1.up (fun h1 h2 h3 => by exfalso; omega), hbg_110.2.2.2.2.2.1.up (fun h1 h2 h3 => by exfalso; omega), hbg_110.2.2.2.2.2.2.1.up (fun h1 h2 h3 => by exfalso; omega), hbg_110.2.2.2.2.2.2.2.1.up (fun h1 h2 h3 => by exfalso; omega), hbg_110.2.2.2.2.2.2.2.2.1.up (fun h1 h2 h3 => by constructor <;> omega), hbg_110.2.2.2.2.2.2.2.2.2.1.up (fun h1 h2 h3 => by exfalso; omega), hbg_110.2.2.2.2.2.2.2.2.2.2.1.up (fun h1 h2 h3 => by exfalso; omega), hbg_110.2.2.2.2.2.2.2.2.2.2.2.1.up (fun h1 h2 h3 => by exfalso; omega), hbg_110.2.2.2.2.2.2.2.2.2.2.2.2.1.up (fun h1 h2 h3 => by exfalso; omega), hbg_110.2.2.2.2.2.2.2.2.2.2.2.2.2.1.up (fun h1 h2 h3 => by exfalso; omega), hbg_110.2.2.2.2.2.2.2.2.2.2.2.2.2.2.1.up (fun h1 h2 h3 => by exfalso; omega), hbg_110.2.2.2.2.2.2.2.2.2.2.2.2.2.2.2.up (fun h1 h2 h3 => by exfalso; omega)⟩
                obtain ⟨f_121, ef_121⟩ : ∃ y : Nat → va_E, y = va_up f_112 a_1 (.inl (cI, 1560, .inl g_119)) := ⟨_, rfl⟩
                have hP : va_P (dC, dI) vwCl (va_pl L f_121) H := by rw [ef_121]; exact hP
                have hD : va_D (fun q => q ∈ L) (va_pl L f_121) := by rw [ef_121]; exact hD
                have hG : GI (okc cI cL cZ cR cG cH L kd) kd L f_121 := by rw [ef_121]; exact hG.set a_1 (mk_575 ka_1 ⟨_, rfl, hbg_119⟩)
                have hfo_122 : f_121 o0 = .inr (12, [.ref a_1, .ref a_2, .ref a_3, .int v_4, .ref a_5, .int 0, .int v_7, .int v_8, .int v_9, .int v_10, .int v_11, .int v_12, .int v_13, .int v_14, .int v_15, .ref a_16, .ref a_17, .ref a_18, .ref a_19, .ref a_20, .ref a_21, .ref a_22, .ref a_23, .int v_24, .int v_25, .int v_26, .int v_27, .int v_28, .ref a_29, .int v_30, .ref a_31, .ref a_32, .int v_33, .int v_34, .ref a_35, .int v_36, .ref a_37, .ref a_38, .int v_39, .int v_40, .ref a_41, .ref a_42, .ref a_43, .int v_44, .ref a_45, .ref a_46, .ref a_47, .ref a_48, .ref a_49, .ref a_50, .ref a_51, .ref a_52, .ref a_53, .int v_54, .int v_55, .ref a_56]) := by rw [ef_121, up_ne (kd_ne ka_1 ko0 (by decide))]; exact hfo_113
                have hfr0 : ∀ b, kd b ≠ 12 → kd b ≠ 575 → f_121 b = f b := fun b q12 q575 => (congrFun ef_121 b).trans ((up_ne (fun e9 => q575 (by rw [e9]; exact ka_1))).trans (hfr0 b q12 q575))
                have hrA12 : ∀ b, kd b = 12 → ∀ j, fldR (f_121 b) j = fldR (f b) j := fun b kb j => (congrArg (fun x => fldR x j) ((congrFun ef_121 b).trans (up_ne (kd_ne ka_1 kb (by decide))))).trans (hrA12 b kb j)
                have hfA12 : ∀ b, kd b = 12 → ∀ j, j ≠ 5 → fldI (f_121 b) j = fldI (f b) j := fun b kb j n5 => (congrArg (fun x => fldI x j) ((congrFun ef_121 b).trans (up_ne (kd_ne ka_1 kb (by decide))))).trans (hfA12 b kb j n5)
                have hfo_123 : f_121 a_1 = .inl (cI, 1560, .inl g_119) := by rw [ef_121]; exact up_self
                have ql_124 : x_118 = g_119 (Int32.toNatClampNeg 42) := by rw [eqg_119, pk_us]
                refine lv_aload_n hx hb dX12_example_233 rfl (lv_at hl 4 rfl) ?_
                refine tk_getP (D := (dC, dI)) (ci := 12) (v := .ref a_1) (C := RX12) (T := TX12) (N := 56) hx hb hU inlX12 hown hK hP mo0 hfo_122 rfl 0 (by decide) (hU _ wd_169) (fun _ h9 => h9) rfl dX12_example_234 ?_
                refine lv_bipush (v := 42) hx hb dX12_example_237 (by decide) ?_
                refine tk_ildP hx hb hK hP 0 ma_1 hfo_123 rfl (vp_in_nI (n := 42) (by decide) (by decide)) dX12_example_239 ?_
                refine tk_topi (y := x_118) ql_124.symm ?_
                refine lv_iconst (v := 1) hx hb dX12_example_240 (by decide) ?_
                refine lv_isub hx hb dX12_example_241 ?_
                refine lv_topi (fun x_125 ex_125 => ?_)
                have hx_125 : x_125.toInt = x_118.toInt - 1 := by rw [ex_125, sb_I (by rw [ti_1]; omega) (by rw [ti_1]; omega), ti_1]
                have bx_125 : (0 ≤ x_125.toInt ∧ x_125.toInt ≤ 11) := by constructor <;> omega
                exact W.iret (v := x_125) hx hb hr (fun t ht hW => ⟨⟨x_125, f_121, rfl, ⟨hG, (by constructor <;> omega), hfr0, hrA12, hfA12, (by intro w5 z5 e5 d5; rw [hfo_57] at e5; rw [hfo_122] at d5; obtain rfl := Option.some.inj e5; obtain rfl := Option.some.inj d5; (try rw [ti_0]) <;> omega)⟩, by rw [ht]; exact hP, va_K.moved hW.alike hK, pl_in hD⟩, hS.F ht⟩) hS.2.2 dX12_example_242
              · skip
                rw [← Int32.toInt_inj, ti_0] at c_109
                refine lv_iconst (v := 1) hx hb dX12_example_216 (by decide) ?_
                refine lv_goto (tgt := 221) hx hb dX12_example_217 (by decide) ?_
                refine tk_istP hx hb hK hP hD hS 0 ma_1 hfo_102 rfl (vp_in_iff.mpr (by constructor <;> omega)) dX12_example_221 (fun H locs hP hD hS => ?_)
                have hc9 := cl_I (i := x_69) (by omega)
                obtain ⟨g_126, eqg_126⟩ : ∃ y : Nat → Int32, y = upd g_103 (Int32.toNatClampNeg x_69) 1 := ⟨_, rfl⟩
                rw [← eqg_126] at hP hD
                have hbg_126 : wOK g_126 := by rw [eqg_126]; exact ⟨hbg_103.1.up (fun h1 h2 h3 => by exfalso; omega), hbg_103.2.1.up (fun h1 h2 h3 => by exfalso; omega), hbg_103.2.2.1.up (fun h1 h2 h3 => by exfalso; omega), hbg_103.2.2.2.1.up (fun h1 h2 h3 => by exfalso; omega), hbg_103.2.2.2.2.1.up (fun h1 h2 h3 => by exfalso; omega), hbg_103.2.2.2.2.2.1.up (fun h1 h2 h3 => by exfalso; omega), hbg_103.2.2.2.2.2.2.1.up (fun h1 h2 h3 => by exfalso; omega), hbg_103.2.2.2.2.2.2.2.1.up (fun h1 h2 h3 => by exfalso; omega), hbg_103.2.2.2.2.2.2.2.2.1.up (fun h1 h2 h3 => by exfalso; omega), hbg_103.2.2.2.2.2.2.2.2.2.1.up (fun h1 h2 h3 => by exfalso; omega), hbg_103.2.2.2.2.2.2.2.2.2.2.1.up (fun h1 h2 h3 => by (try rw [ti_1]); constructor <;> omega), hbg_103.2.2.2.2.2.2.2.2.2.2.2.1.up (fun h1 h2 h3 => by exfalso; omega), hbg_103.2.2.2.2.2.2.2.2.2.2.2.2.1.up (fun h1 h2 h3 => by exfalso; omega), hbg_103.2.2.2.2.2.2.2.2.2.2.2.2.2.1.up (fun h1 h2 h3 => by exfalso; omega), hbg_103.2.2.2.2.2.2.2.2.2.2.2.2.2.2.1.up (fun h1 h2 h3 => by exfalso; omega), hbg_103.2.2.2.2.2.2.2.2.2.2.2.2.2.2.2.up (fun h1 h2 h3 => by exfalso; omega)⟩
                obtain ⟨f_128, ef_128⟩ : ∃ y : Nat → va_E, y = va_up f_97 a_1 (.inl (cI, 1560, .inl g_126)) := ⟨_, rfl⟩
                have hP : va_P (dC, dI) vwCl (va_pl L f_128) H := by rw [ef_128]; exact hP
                have hD : va_D (fun q => q ∈ L) (va_pl L f_128) := by rw [ef_128]; exact hD
                have hG : GI (okc cI cL cZ cR cG cH L kd) kd L f_128 := by rw [ef_128]; exact hG.set a_1 (mk_575 ka_1 ⟨_, rfl, hbg_126⟩)
                have hfo_129 : f_128 o0 = .inr (12, [.ref a_1, .ref a_2, .ref a_3, .int v_4, .ref a_5, .int 0, .int v_7, .int v_8, .int v_9, .int v_10, .int v_11, .int v_12, .int v_13, .int v_14, .int v_15, .ref a_16, .ref a_17, .ref a_18, .ref a_19, .ref a_20, .ref a_21, .ref a_22, .ref a_23, .int v_24, .int v_25, .int v_26, .int v_27, .int v_28, .ref a_29, .int v_30, .ref a_31, .ref a_32, .int v_33, .int v_34, .ref a_35, .int v_36, .ref a_37, .ref a_38, .int v_39, .int v_40, .ref a_41, .ref a_42, .ref a_43, .int v_44, .ref a_45, .ref a_46, .ref a_47, .ref a_48, .ref a_49, .ref a_50, .ref a_51, .ref a_52, .ref a_53, .int v_54, .int v_55, .ref a_56]) := by rw [ef_128, up_ne (kd_ne ka_1 ko0 (by decide))]; exact hfo_98
                have hfr0 : ∀ b, kd b ≠ 12 → kd b ≠ 575 → f_128 b = f b := fun b q12 q575 => (congrFun ef_128 b).trans ((up_ne (fun e9 => q575 (by rw [e9]; exact ka_1))).trans (hfr0 b q12 q575))
                have hrA12 : ∀ b, kd b = 12 → ∀ j, fldR (f_128 b) j = fldR (f b) j := fun b kb j => (congrArg (fun x => fldR x j) ((congrFun ef_128 b).trans (up_ne (kd_ne ka_1 kb (by decide))))).trans (hrA12 b kb j)
                have hfA12 : ∀ b, kd b = 12 → ∀ j, j ≠ 5 → fldI (f_128 b) j = fldI (f b) j := fun b kb j n5 => (congrArg (fun x => fldI x j) ((congrFun ef_128 b).trans (up_ne (kd_ne ka_1 kb (by decide))))).trans (hfA12 b kb j n5)
                have hTt_67 : wrel kd 575 42 11 f_128 a_1 := by rw [ef_128]; exact wrel.mk ka_1 up_self (by rw [eqg_126, pk_un (by omega)]; exact hTt_67.get hfo_102)
                have hfo_130 : f_128 a_1 = .inl (cI, 1560, .inl g_126) := by rw [ef_128]; exact up_self
                have ql_131 : 1 = g_126 (Int32.toNatClampNeg x_69) := by rw [eqg_126, pk_us]
                refine lv_aload_n hx hb dX12_example_222 rfl (lv_at hl 4 rfl) ?_
                refine tk_getP (D := (dC, dI)) (ci := 12) (v := .ref a_1) (C := RX12) (T := TX12) (N := 56) hx hb hU inlX12 hown hK hP mo0 hfo_129 rfl 0 (by decide) (hU _ wd_169) (fun _ h9 => h9) rfl dX12_example_223 ?_
                refine lv_bipush (v := 42) hx hb dX12_example_226 (by decide) ?_
                refine lv_dup2_11 hx hb dX12_example_228 rfl rfl ?_
                refine tk_ildP hx hb hK hP 0 ma_1 hfo_130 rfl (vp_in_nI (n := 42) (by decide) (by decide)) dX12_example_229 ?_
                refine lv_topi (fun x_132 ex_132 => ?_)
                have bx_132 : (0 ≤ x_132.toInt ∧ x_132.toInt ≤ 12) := by rw [ex_132]; exact hbg_126.2.2.2.2.2.2.2.2.1 _ (by decide) (by decide) (by decide)
                have hnrc_133 : (0 ≤ x_132.toInt ∧ x_132.toInt ≤ 11) := by have hq1 := hTt_67.get hfo_130; have hq2 : x_132.toInt = (g_126 42).toInt := (by rw [ex_132]; rfl); constructor <;> omega
                refine lv_iconst (v := 1) hx hb dX12_example_230 (by decide) ?_
                refine lv_iadd hx hb dX12_example_231 ?_
                refine lv_topi (fun x_134 ex_134 => ?_)
                have hx_134 : x_134.toInt = x_132.toInt + 1 := by rw [ex_134, ad_I (by rw [ti_1]; omega) (by rw [ti_1]; omega), ti_1]
                have bx_134 : (1 ≤ x_134.toInt ∧ x_134.toInt ≤ 12) := by constructor <;> omega
                refine tk_istP hx hb hK hP hD hS 0 ma_1 hfo_130 rfl (vp_in_nI (n := 42) (by decide) (by decide)) dX12_example_232 (fun H locs hP hD hS => ?_)
                have hc9 : ((Int32.toNatClampNeg 42 : Nat) : Int) = 42 := by decide
                obtain ⟨g_135, eqg_135⟩ : ∃ y : Nat → Int32, y = upd g_126 (Int32.toNatClampNeg 42) x_134 := ⟨_, rfl⟩
                rw [← eqg_135] at hP hD
                have hbg_135 : wOK g_135 := by rw [eqg_135]; exact ⟨hbg_126.1.up (fun h1 h2 h3 => by exfalso; omega), hbg_126.2.1.up (fun h1 h2 h3 => by exfalso; omega), hbg_126.2.2.1.up (fun h1 h2 h3 => by exfalso; omega), hbg_126.2.2.2.1.up (fun h1 h2 h3 => by exfalso; omega), hbg_126.2.2.2.2.1.up (fun h1 h2 h3 => by exfalso; omega), hbg_126.2.2.2.2.2.1.up (fun h1 h2 h3 => by exfalso; omega), hbg_126.2.2.2.2.2.2.1.up (fun h1 h2 h3 => by exfalso; omega), hbg_126.2.2.2.2.2.2.2.1.up (fun h1 h2 h3 => by exfalso; omega), hbg_126.2.2.2.2.2.2.2.2.1.up (fun h1 h2 h3 => by constructor <;> omega), hbg_126.2.2.2.2.2.2.2.2.2.1.up (fun h1 h2 h3 => by exfalso; omega), hbg_126.2.2.2.2.2.2.2.2.2.2.1.up (fun h1 h2 h3 => by exfalso; omega), hbg_126.2.2.2.2.2.2.2.2.2.2.2.1.up (fun h1 h2 h3 => by exfalso; omega), hbg_126.2.2.2.2.2.2.2.2.2.2.2.2.1.up (fun h1 h2 h3 => by exfalso; omega), hbg_126.2.2.2.2.2.2.2.2.2.2.2.2.2.1.up (fun h1 h2 h3 => by exfalso; omega), hbg_126.2.2.2.2.2.2.2.2.2.2.2.2.2.2.1.up (fun h1 h2 h3 => by exfalso; omega), hbg_126.2.2.2.2.2.2.2.2.2.2.2.2.2.2.2.up (fun h1 h2 h3 => by exfalso; omega)⟩
                obtain ⟨f_137, ef_137⟩ : ∃ y : Nat → va_E, y = va_up f_128 a_1 (.inl (cI, 1560, .inl g_135)) := ⟨_, rfl⟩
                have hP : va_P (dC, dI) vwCl (va_pl L f_137) H := by rw [ef_137]; exact hP
                have hD : va_D (fun q => q ∈ L) (va_pl L f_137) := by rw [ef_137]; exact hD
                have hG : GI (okc cI cL cZ cR cG cH L kd) kd L f_137 := by rw [ef_137]; exact hG.set a_1 (mk_575 ka_1 ⟨_, rfl, hbg_135⟩)
                have hfo_138 : f_137 o0 = .inr (12, [.ref a_1, .ref a_2, .ref a_3, .int v_4, .ref a_5, .int 0, .int v_7, .int v_8, .int v_9, .int v_10, .int v_11, .int v_12, .int v_13, .int v_14, .int v_15, .ref a_16, .ref a_17, .ref a_18, .ref a_19, .ref a_20, .ref a_21, .ref a_22, .ref a_23, .int v_24, .int v_25, .int v_26, .int v_27, .int v_28, .ref a_29, .int v_30, .ref a_31, .ref a_32, .int v_33, .int v_34, .ref a_35, .int v_36, .ref a_37, .ref a_38, .int v_39, .int v_40, .ref a_41, .ref a_42, .ref a_43, .int v_44, .ref a_45, .ref a_46, .ref a_47, .ref a_48, .ref a_49, .ref a_50, .ref a_51, .ref a_52, .ref a_53, .int v_54, .int v_55, .ref a_56]) := by rw [ef_137, up_ne (kd_ne ka_1 ko0 (by decide))]; exact hfo_129
                have hfr0 : ∀ b, kd b ≠ 12 → kd b ≠ 575 → f_137 b = f b := fun b q12 q575 => (congrFun ef_137 b).trans ((up_ne (fun e9 => q575 (by rw [e9]; exact ka_1))).trans (hfr0 b q12 q575))
                have hrA12 : ∀ b, kd b = 12 → ∀ j, fldR (f_137 b) j = fldR (f b) j := fun b kb j => (congrArg (fun x => fldR x j) ((congrFun ef_137 b).trans (up_ne (kd_ne ka_1 kb (by decide))))).trans (hrA12 b kb j)
                have hfA12 : ∀ b, kd b = 12 → ∀ j, j ≠ 5 → fldI (f_137 b) j = fldI (f b) j := fun b kb j n5 => (congrArg (fun x => fldI x j) ((congrFun ef_137 b).trans (up_ne (kd_ne ka_1 kb (by decide))))).trans (hfA12 b kb j n5)
                have hfo_139 : f_137 a_1 = .inl (cI, 1560, .inl g_135) := by rw [ef_137]; exact up_self
                have ql_140 : x_134 = g_135 (Int32.toNatClampNeg 42) := by rw [eqg_135, pk_us]
                refine lv_aload_n hx hb dX12_example_233 rfl (lv_at hl 4 rfl) ?_
                refine tk_getP (D := (dC, dI)) (ci := 12) (v := .ref a_1) (C := RX12) (T := TX12) (N := 56) hx hb hU inlX12 hown hK hP mo0 hfo_138 rfl 0 (by decide) (hU _ wd_169) (fun _ h9 => h9) rfl dX12_example_234 ?_
                refine lv_bipush (v := 42) hx hb dX12_example_237 (by decide) ?_
                refine tk_ildP hx hb hK hP 0 ma_1 hfo_139 rfl (vp_in_nI (n := 42) (by decide) (by decide)) dX12_example_239 ?_
                refine tk_topi (y := x_134) ql_140.symm ?_
                refine lv_iconst (v := 1) hx hb dX12_example_240 (by decide) ?_
                refine lv_isub hx hb dX12_example_241 ?_
                refine lv_topi (fun x_141 ex_141 => ?_)
                have hx_141 : x_141.toInt = x_134.toInt - 1 := by rw [ex_141, sb_I (by rw [ti_1]; omega) (by rw [ti_1]; omega), ti_1]
                have bx_141 : (0 ≤ x_141.toInt ∧ x_141.toInt ≤ 11) := by constructor <;> omega
                exact W.iret (v := x_141) hx hb hr (fun t ht hW => ⟨⟨x_141, f_137, rfl, ⟨hG, (by constructor <;> omega), hfr0, hrA12, hfA12, (by intro w5 z5 e5 d5; rw [hfo_57] at e5; rw [hfo_138] at d5; obtain rfl := Option.some.inj e5; obtain rfl := Option.some.inj d5; (try rw [ti_0]) <;> omega)⟩, by rw [ht]; exact hP, va_K.moved hW.alike hK, pl_in hD⟩, hS.F ht⟩) hS.2.2 dX12_example_242
            · skip
              rw [← Int32.toInt_inj, ti_0] at c_108
              refine lv_iconst (v := (-1)) hx hb dX12_example_205 (by decide) ?_
              exact W.iret (v := (-1)) hx hb hr (fun t ht hW => ⟨⟨(-1), f_97, rfl, ⟨hG, (by decide), hfr0, hrA12, hfA12, (by intro w5 z5 e5 d5; rw [hfo_57] at e5; rw [hfo_98] at d5; obtain rfl := Option.some.inj e5; obtain rfl := Option.some.inj d5; (try rw [ti_0]) <;> (try rw [ti_m1]) <;> omega)⟩, by rw [ht]; exact hP, va_K.moved hW.alike hK, pl_in hD⟩, hS.F ht⟩) hS.2.2 dX12_example_206
        · skip
          rw [Int32.le_iff_toInt_le] at c_99
          refine lv_aload_n hx hb dX12_example_69 rfl (lv_at hl 4 rfl) ?_
          refine tk_getP (D := (dC, dI)) (ci := 12) (v := .ref a_1) (C := RX12) (T := TX12) (N := 56) hx hb hU inlX12 hown hK hP mo0 hfo_98 rfl 0 (by decide) (hU _ wd_169) (fun _ h9 => h9) rfl dX12_example_70 ?_
          refine lv_aload_n hx hb dX12_example_73 rfl (lv_at hl 4 rfl) ?_
          refine tk_getP (D := (dC, dI)) (ci := 12) (v := .ref a_5) (C := RX12) (T := TX12) (N := 56) hx hb hU inlX12 hown hK hP mo0 hfo_98 rfl 4 (by decide) (hU _ wd_172) (fun _ h9 => h9) rfl dX12_example_74 ?_
          refine lv_iload hx hb dX12_example_77 (lv_at hl 0 rfl) ?_
          obtain ⟨g_143, hfo_142, hbg_143⟩ := un_578 (hG _ ma_5) ka_5
          refine tk_ildP hx hb hK hP 0 ma_5 hfo_142 rfl (vp_in_iff.mpr (by constructor <;> omega)) dX12_example_79 ?_
          refine lv_topi (fun x_144 ex_144 => ?_)
          have bx_144 : (0 ≤ x_144.toInt ∧ x_144.toInt ≤ 255) := by rw [ex_144]; exact hbg_143 _
          refine tk_SiP (As := [.ref a_1, .int x_144]) (rest := []) (n := 2) hx hb hml hown hU hN hZ (s_X12_letterIn_a575 l (dC, dI) cI cL cZ cR cG cH Z kd L f_97 hG a_1 ma_1 ka_1 x_144) wd_606 wd_607 wd_5 wd_608 (by decide +kernel) ⟨Nat.le_of_ble_eq_true rfl, Nat.le_of_ble_eq_true rfl⟩ hK hP hD hS rfl hl.1 rfl (Nat.le_of_ble_eq_true rfl) dX12_example_80 ⟨Nat.le_of_ble_eq_true rfl, Nat.le_of_ble_eq_true rfl⟩ (fun x_145 f_146 H locs hw hP hD hS => ?_)
          obtain ⟨rfl, bx_145, hxp_147⟩ := hw
          obtain ⟨g_150, hfo_149, hbg_150⟩ := un_575 (hG _ ma_1) ka_1
          have hlix_145 := hxp_147 g_150 hfo_149
          refine lv_istore (lv' := [(6, .int x_145), (5, .int y_94), (4, .int y_95), (3, .int x_69), (2, .int v_6), (0, .ref o0), (1, .int p1)]) hx hb dX12_example_83 hl (by decide) rfl (fun ls hl => ?_)
          refine lv_aload_n hx hb dX12_example_85 rfl (lv_at hl 5 rfl) ?_
          refine tk_getP (D := (dC, dI)) (ci := 12) (v := .ref a_5) (C := RX12) (T := TX12) (N := 56) hx hb hU inlX12 hown hK hP mo0 hfo_98 rfl 4 (by decide) (hU _ wd_172) (fun _ h9 => h9) rfl dX12_example_86 ?_
          refine lv_iload hx hb dX12_example_89 (lv_at hl 1 rfl) ?_
          refine tk_ildP hx hb hK hP 0 ma_5 hfo_142 rfl (vp_in_iff.mpr (by constructor <;> omega)) dX12_example_91 ?_
          refine tk_topi (y := x_144) ex_144.symm ?_
          refine lv_bipush (v := 58) hx hb dX12_example_92 (by decide) ?_
          refine lv_icmp_ne (tgt := 108) hx hb dX12_example_94 (by decide) (fun c_151 => ?_) (fun c_151 => ?_)
          · skip
            rw [← Int32.toInt_inj, ti_58] at c_151
            refine lv_iload hx hb dX12_example_108 (lv_at hl 0 rfl) ?_
            refine lv_if_eq (tgt := 129) hx hb dX12_example_110 (by decide) (fun c_152 => ?_) (fun c_152 => ?_)
            · skip
              rw [← Int32.toInt_inj, ti_0] at c_152
              refine lv_iconst (v := (-1)) hx hb dX12_example_129 (by decide) ?_
              exact W.iret (v := (-1)) hx hb hr (fun t ht hW => ⟨⟨(-1), f_97, rfl, ⟨hG, (by decide), hfr0, hrA12, hfA12, (by intro w5 z5 e5 d5; rw [hfo_57] at e5; rw [hfo_98] at d5; obtain rfl := Option.some.inj e5; obtain rfl := Option.some.inj d5; (try rw [ti_0]) <;> (try rw [ti_m1]) <;> omega)⟩, by rw [ht]; exact hP, va_K.moved hW.alike hK, pl_in hD⟩, hS.F ht⟩) hS.2.2 dX12_example_130
            · skip
              rw [← Int32.toInt_inj, ti_0] at c_152
              refine lv_aload_n hx hb dX12_example_113 rfl (lv_at hl 5 rfl) ?_
              refine tk_getP (D := (dC, dI)) (ci := 12) (v := .ref a_1) (C := RX12) (T := TX12) (N := 56) hx hb hU inlX12 hown hK hP mo0 hfo_98 rfl 0 (by decide) (hU _ wd_169) (fun _ h9 => h9) rfl dX12_example_114 ?_
              refine lv_iload_n hx hb dX12_example_117 rfl (lv_at hl 3 rfl) ?_
              refine lv_iconst (v := 1) hx hb dX12_example_118 (by decide) ?_
              refine lv_iadd hx hb dX12_example_119 ?_
              refine lv_topi (fun x_153 ex_153 => ?_)
              have hx_153 : x_153.toInt = x_69.toInt + 1 := by rw [ex_153, ad_I (by rw [ti_1]; omega) (by rw [ti_1]; omega), ti_1]
              have bx_153 : (221 ≤ x_153.toInt ∧ x_153.toInt ≤ 441) := by constructor <;> omega
              refine lv_iload hx hb dX12_example_120 (lv_at hl 2 rfl) ?_
              refine lv_iadd hx hb dX12_example_122 ?_
              refine lv_topi (fun x_154 ex_154 => ?_)
              have hx_154 : x_154.toInt = x_153.toInt + y_95.toInt := by rw [ex_154, ad_I (by omega) (by omega)]
              have bx_154 : (221 ≤ x_154.toInt ∧ x_154.toInt ≤ 442) := by constructor <;> omega
              refine tk_ildP hx hb hK hP 0 ma_1 hfo_149 rfl (vp_in_iff.mpr (by constructor <;> omega)) dX12_example_123 ?_
              refine lv_topi (fun x_155 ex_155 => ?_)
              have bx_155 : (0 ≤ x_155.toInt ∧ x_155.toInt ≤ 8) := by have hc9 := cl_I (i := x_154) (by omega); rw [ex_155]; exact hbg_150.2.2.2.2.2.2.2.2.2.2.1 _ (by omega) (by omega) (by omega)
              refine lv_bipush (v := 8) hx hb dX12_example_124 (by decide) ?_
              refine lv_icmp_ne (tgt := 131) hx hb dX12_example_126 (by decide) (fun c_156 => ?_) (fun c_156 => ?_)
              · skip
                rw [← Int32.toInt_inj, ti_8] at c_156
                refine lv_aload_n hx hb dX12_example_131 rfl (lv_at hl 5 rfl) ?_
                refine tk_getP (D := (dC, dI)) (ci := 12) (v := .ref a_1) (C := RX12) (T := TX12) (N := 56) hx hb hU inlX12 hown hK hP mo0 hfo_98 rfl 0 (by decide) (hU _ wd_169) (fun _ h9 => h9) rfl dX12_example_132 ?_
                refine lv_iload_n hx hb dX12_example_135 rfl (lv_at hl 3 rfl) ?_
                refine lv_iconst (v := 3) hx hb dX12_example_136 (by decide) ?_
                refine lv_iadd hx hb dX12_example_137 ?_
                refine lv_topi (fun x_157 ex_157 => ?_)
                have hx_157 : x_157.toInt = x_69.toInt + 3 := by rw [ex_157, ad_I (by rw [ti_3]; omega) (by rw [ti_3]; omega), ti_3]
                have bx_157 : (223 ≤ x_157.toInt ∧ x_157.toInt ≤ 443) := by constructor <;> omega
                refine lv_bipush (v := 8) hx hb dX12_example_138 (by decide) ?_
                refine lv_iload hx hb dX12_example_140 (lv_at hl 2 rfl) ?_
                refine lv_imul hx hb dX12_example_142 ?_
                refine lv_topi (fun x_158 ex_158 => ?_)
                have hx_158 : x_158.toInt = 8 * y_95.toInt := by rw [ex_158, ml_I (by rw [ti_8]; omega) (by rw [ti_8]; omega), ti_8]
                have bx_158 : (0 ≤ x_158.toInt ∧ x_158.toInt ≤ 8) := by constructor <;> omega
                refine lv_iadd hx hb dX12_example_143 ?_
                refine lv_topi (fun x_159 ex_159 => ?_)
                have hx_159 : x_159.toInt = x_157.toInt + x_158.toInt := by rw [ex_159, ad_I (by omega) (by omega)]
                have bx_159 : (223 ≤ x_159.toInt ∧ x_159.toInt ≤ 451) := by constructor <;> omega
                refine lv_aload_n hx hb dX12_example_144 rfl (lv_at hl 5 rfl) ?_
                refine tk_getP (D := (dC, dI)) (ci := 12) (v := .ref a_1) (C := RX12) (T := TX12) (N := 56) hx hb hU inlX12 hown hK hP mo0 hfo_98 rfl 0 (by decide) (hU _ wd_169) (fun _ h9 => h9) rfl dX12_example_145 ?_
                refine lv_iload_n hx hb dX12_example_148 rfl (lv_at hl 3 rfl) ?_
                refine lv_iconst (v := 1) hx hb dX12_example_149 (by decide) ?_
                refine lv_iadd hx hb dX12_example_150 ?_
                refine lv_topi (fun x_160 ex_160 => ?_)
                have hx_160 : x_160.toInt = x_69.toInt + 1 := by rw [ex_160, ad_I (by rw [ti_1]; omega) (by rw [ti_1]; omega), ti_1]
                have bx_160 : (221 ≤ x_160.toInt ∧ x_160.toInt ≤ 441) := by constructor <;> omega
                refine lv_iload hx hb dX12_example_151 (lv_at hl 2 rfl) ?_
                refine lv_iadd hx hb dX12_example_153 ?_
                refine lv_topi (fun x_161 ex_161 => ?_)
                have hx_161 : x_161.toInt = x_160.toInt + y_95.toInt := by rw [ex_161, ad_I (by omega) (by omega)]
                have bx_161 : (221 ≤ x_161.toInt ∧ x_161.toInt ≤ 442) := by constructor <;> omega
                refine tk_ildP hx hb hK hP 0 ma_1 hfo_149 rfl (vp_in_iff.mpr (by constructor <;> omega)) dX12_example_154 ?_
                refine lv_topi (fun x_162 ex_162 => ?_)
                have bx_162 : (0 ≤ x_162.toInt ∧ x_162.toInt ≤ 8) := by have hc9 := cl_I (i := x_161) (by omega); rw [ex_162]; exact hbg_150.2.2.2.2.2.2.2.2.2.2.1 _ (by omega) (by omega) (by omega)
                refine lv_iadd hx hb dX12_example_155 ?_
                refine lv_topi (fun x_163 ex_163 => ?_)
                have hx_163 : x_163.toInt = x_159.toInt + x_162.toInt := by rw [ex_163, ad_I (by omega) (by omega)]
                have bx_163 : (223 ≤ x_163.toInt ∧ x_163.toInt ≤ 459) := by constructor <;> omega
                refine lv_iload hx hb dX12_example_156 (lv_at hl 0 rfl) ?_
                refine tk_istP hx hb hK hP hD hS 0 ma_1 hfo_149 rfl (vp_in_iff.mpr (by constructor <;> omega)) dX12_example_158 (fun H locs hP hD hS => ?_)
                have hc9 := cl_I (i := x_163) (by omega)
                obtain ⟨g_164, eqg_164⟩ : ∃ y : Nat → Int32, y = upd g_150 (Int32.toNatClampNeg x_163) x_145 := ⟨_, rfl⟩
                rw [← eqg_164] at hP hD
                have hbg_164 : wOK g_164 := by rw [eqg_164]; exact ⟨hbg_150.1.up (fun h1 h2 h3 => by exfalso; omega), hbg_150.2.1.up (fun h1 h2 h3 => by exfalso; omega), hbg_150.2.2.1.up (fun h1 h2 h3 => by exfalso; omega), hbg_150.2.2.2.1.up (fun h1 h2 h3 => by exfalso; omega), hbg_150.2.2.2.2.1.up (fun h1 h2 h3 => by exfalso; omega), hbg_150.2.2.2.2.2.1.up (fun h1 h2 h3 => by exfalso; omega), hbg_150.2.2.2.2.2.2.1.up (fun h1 h2 h3 => by exfalso; omega), hbg_150.2.2.2.2.2.2.2.1.up (fun h1 h2 h3 => by exfalso; omega), hbg_150.2.2.2.2.2.2.2.2.1.up (fun h1 h2 h3 => by exfalso; omega), hbg_150.2.2.2.2.2.2.2.2.2.1.up (fun h1 h2 h3 => by exfalso; omega), hbg_150.2.2.2.2.2.2.2.2.2.2.1.up (fun h1 h2 h3 => by constructor <;> omega), hbg_150.2.2.2.2.2.2.2.2.2.2.2.1.up (fun h1 h2 h3 => by exfalso; omega), hbg_150.2.2.2.2.2.2.2.2.2.2.2.2.1.up (fun h1 h2 h3 => by exfalso; omega), hbg_150.2.2.2.2.2.2.2.2.2.2.2.2.2.1.up (fun h1 h2 h3 => by exfalso; omega), hbg_150.2.2.2.2.2.2.2.2.2.2.2.2.2.2.1.up (fun h1 h2 h3 => by exfalso; omega), hbg_150.2.2.2.2.2.2.2.2.2.2.2.2.2.2.2.up (fun h1 h2 h3 => by exfalso; omega)⟩
                obtain ⟨f_166, ef_166⟩ : ∃ y : Nat → va_E, y = va_up f_97 a_1 (.inl (cI, 1560, .inl g_164)) := ⟨_, rfl⟩
                have hP : va_P (dC, dI) vwCl (va_pl L f_166) H := by rw [ef_166]; exact hP
                have hD : va_D (fun q => q ∈ L) (va_pl L f_166) := by rw [ef_166]; exact hD
                have hG : GI (okc cI cL cZ cR cG cH L kd) kd L f_166 := by rw [ef_166]; exact hG.set a_1 (mk_575 ka_1 ⟨_, rfl, hbg_164⟩)
                have hfo_167 : f_166 o0 = .inr (12, [.ref a_1, .ref a_2, .ref a_3, .int v_4, .ref a_5, .int 0, .int v_7, .int v_8, .int v_9, .int v_10, .int v_11, .int v_12, .int v_13, .int v_14, .int v_15, .ref a_16, .ref a_17, .ref a_18, .ref a_19, .ref a_20, .ref a_21, .ref a_22, .ref a_23, .int v_24, .int v_25, .int v_26, .int v_27, .int v_28, .ref a_29, .int v_30, .ref a_31, .ref a_32, .int v_33, .int v_34, .ref a_35, .int v_36, .ref a_37, .ref a_38, .int v_39, .int v_40, .ref a_41, .ref a_42, .ref a_43, .int v_44, .ref a_45, .ref a_46, .ref a_47, .ref a_48, .ref a_49, .ref a_50, .ref a_51, .ref a_52, .ref a_53, .int v_54, .int v_55, .ref a_56]) := by rw [ef_166, up_ne (kd_ne ka_1 ko0 (by decide))]; exact hfo_98
                have hfo_168 : f_166 a_5 = .inl (cI, 600, .inl g_143) := by rw [ef_166, up_ne (kd_ne ka_1 ka_5 (by decide))]; exact hfo_142
                have hfr0 : ∀ b, kd b ≠ 12 → kd b ≠ 575 → f_166 b = f b := fun b q12 q575 => (congrFun ef_166 b).trans ((up_ne (fun e9 => q575 (by rw [e9]; exact ka_1))).trans (hfr0 b q12 q575))
                have hrA12 : ∀ b, kd b = 12 → ∀ j, fldR (f_166 b) j = fldR (f b) j := fun b kb j => (congrArg (fun x => fldR x j) ((congrFun ef_166 b).trans (up_ne (kd_ne ka_1 kb (by decide))))).trans (hrA12 b kb j)
                have hfA12 : ∀ b, kd b = 12 → ∀ j, j ≠ 5 → fldI (f_166 b) j = fldI (f b) j := fun b kb j n5 => (congrArg (fun x => fldI x j) ((congrFun ef_166 b).trans (up_ne (kd_ne ka_1 kb (by decide))))).trans (hfA12 b kb j n5)
                have hTt_67 : wrel kd 575 42 11 f_166 a_1 := by rw [ef_166]; exact wrel.mk ka_1 up_self (by rw [eqg_164, pk_un (by omega)]; exact hTt_67.get hfo_149)
                have hfo_169 : f_166 a_1 = .inl (cI, 1560, .inl g_164) := by rw [ef_166]; exact up_self
                have ql_170 : x_145 = g_164 (Int32.toNatClampNeg x_163) := by rw [eqg_164, pk_us]
                refine lv_aload_n hx hb dX12_example_159 rfl (lv_at hl 5 rfl) ?_
                refine tk_getP (D := (dC, dI)) (ci := 12) (v := .ref a_1) (C := RX12) (T := TX12) (N := 56) hx hb hU inlX12 hown hK hP mo0 hfo_167 rfl 0 (by decide) (hU _ wd_169) (fun _ h9 => h9) rfl dX12_example_160 ?_
                refine lv_iload_n hx hb dX12_example_163 rfl (lv_at hl 3 rfl) ?_
                refine lv_iconst (v := 1) hx hb dX12_example_164 (by decide) ?_
                refine lv_iadd hx hb dX12_example_165 ?_
                refine lv_topi (fun x_171 ex_171 => ?_)
                have hx_171 : x_171.toInt = x_69.toInt + 1 := by rw [ex_171, ad_I (by rw [ti_1]; omega) (by rw [ti_1]; omega), ti_1]
                have bx_171 : (221 ≤ x_171.toInt ∧ x_171.toInt ≤ 441) := by constructor <;> omega
                refine lv_iload hx hb dX12_example_166 (lv_at hl 2 rfl) ?_
                refine lv_iadd hx hb dX12_example_168 ?_
                refine lv_topi (fun x_172 ex_172 => ?_)
                have hx_172 : x_172.toInt = x_171.toInt + y_95.toInt := by rw [ex_172, ad_I (by omega) (by omega)]
                have bx_172 : (221 ≤ x_172.toInt ∧ x_172.toInt ≤ 442) := by constructor <;> omega
                refine lv_dup2_11 hx hb dX12_example_169 rfl rfl ?_
                refine tk_ildP hx hb hK hP 0 ma_1 hfo_169 rfl (vp_in_iff.mpr (by constructor <;> omega)) dX12_example_170 ?_
                refine lv_topi (fun x_173 ex_173 => ?_)
                have bx_173 : (0 ≤ x_173.toInt ∧ x_173.toInt ≤ 8) := by have hc9 := cl_I (i := x_172) (by omega); rw [ex_173]; exact hbg_164.2.2.2.2.2.2.2.2.2.2.1 _ (by omega) (by omega) (by omega)
                have hnrc_174 : (0 ≤ x_173.toInt ∧ x_173.toInt ≤ 7) := by have hci := cl_I (i := x_154) (by omega); have hcj := cl_I (i := x_172) (by omega); have hc0 := cl_I (i := x_163) (by omega); have h7 : x_173 = x_155 := (by rw [ex_173, eqg_164, pk_un (by omega), ex_155]; congr 1; omega); rw [h7]; constructor <;> omega
                refine lv_iconst (v := 1) hx hb dX12_example_171 (by decide) ?_
                refine lv_iadd hx hb dX12_example_172 ?_
                refine lv_topi (fun x_175 ex_175 => ?_)
                have hx_175 : x_175.toInt = x_173.toInt + 1 := by rw [ex_175, ad_I (by rw [ti_1]; omega) (by rw [ti_1]; omega), ti_1]
                have bx_175 : (1 ≤ x_175.toInt ∧ x_175.toInt ≤ 8) := by constructor <;> omega
                refine tk_istP hx hb hK hP hD hS 0 ma_1 hfo_169 rfl (vp_in_iff.mpr (by constructor <;> omega)) dX12_example_173 (fun H locs hP hD hS => ?_)
                have hc9 := cl_I (i := x_172) (by omega)
                obtain ⟨g_176, eqg_176⟩ : ∃ y : Nat → Int32, y = upd g_164 (Int32.toNatClampNeg x_172) x_175 := ⟨_, rfl⟩
                rw [← eqg_176] at hP hD
                have hbg_176 : wOK g_176 := by rw [eqg_176]; exact ⟨hbg_164.1.up (fun h1 h2 h3 => by exfalso; omega), hbg_164.2.1.up (fun h1 h2 h3 => by exfalso; omega), hbg_164.2.2.1.up (fun h1 h2 h3 => by exfalso; omega), hbg_164.2.2.2.1.up (fun h1 h2 h3 => by exfalso; omega), hbg_164.2.2.2.2.1.up (fun h1 h2 h3 => by exfalso; omega), hbg_164.2.2.2.2.2.1.up (fun h1 h2 h3 => by exfalso; omega), hbg_164.2.2.2.2.2.2.1.up (fun h1 h2 h3 => by exfalso; omega), hbg_164.2.2.2.2.2.2.2.1.up (fun h1 h2 h3 => by exfalso; omega), hbg_164.2.2.2.2.2.2.2.2.1.up (fun h1 h2 h3 => by exfalso; omega), hbg_164.2.2.2.2.2.2.2.2.2.1.up (fun h1 h2 h3 => by exfalso; omega), hbg_164.2.2.2.2.2.2.2.2.2.2.1.up (fun h1 h2 h3 => by constructor <;> omega), hbg_164.2.2.2.2.2.2.2.2.2.2.2.1.up (fun h1 h2 h3 => by exfalso; omega), hbg_164.2.2.2.2.2.2.2.2.2.2.2.2.1.up (fun h1 h2 h3 => by exfalso; omega), hbg_164.2.2.2.2.2.2.2.2.2.2.2.2.2.1.up (fun h1 h2 h3 => by exfalso; omega), hbg_164.2.2.2.2.2.2.2.2.2.2.2.2.2.2.1.up (fun h1 h2 h3 => by exfalso; omega), hbg_164.2.2.2.2.2.2.2.2.2.2.2.2.2.2.2.up (fun h1 h2 h3 => by exfalso; omega)⟩
                obtain ⟨f_178, ef_178⟩ : ∃ y : Nat → va_E, y = va_up f_166 a_1 (.inl (cI, 1560, .inl g_176)) := ⟨_, rfl⟩
                have hP : va_P (dC, dI) vwCl (va_pl L f_178) H := by rw [ef_178]; exact hP
                have hD : va_D (fun q => q ∈ L) (va_pl L f_178) := by rw [ef_178]; exact hD
                have hG : GI (okc cI cL cZ cR cG cH L kd) kd L f_178 := by rw [ef_178]; exact hG.set a_1 (mk_575 ka_1 ⟨_, rfl, hbg_176⟩)
                have hfo_179 : f_178 o0 = .inr (12, [.ref a_1, .ref a_2, .ref a_3, .int v_4, .ref a_5, .int 0, .int v_7, .int v_8, .int v_9, .int v_10, .int v_11, .int v_12, .int v_13, .int v_14, .int v_15, .ref a_16, .ref a_17, .ref a_18, .ref a_19, .ref a_20, .ref a_21, .ref a_22, .ref a_23, .int v_24, .int v_25, .int v_26, .int v_27, .int v_28, .ref a_29, .int v_30, .ref a_31, .ref a_32, .int v_33, .int v_34, .ref a_35, .int v_36, .ref a_37, .ref a_38, .int v_39, .int v_40, .ref a_41, .ref a_42, .ref a_43, .int v_44, .ref a_45, .ref a_46, .ref a_47, .ref a_48, .ref a_49, .ref a_50, .ref a_51, .ref a_52, .ref a_53, .int v_54, .int v_55, .ref a_56]) := by rw [ef_178, up_ne (kd_ne ka_1 ko0 (by decide))]; exact hfo_167
                have hfo_180 : f_178 a_5 = .inl (cI, 600, .inl g_143) := by rw [ef_178, up_ne (kd_ne ka_1 ka_5 (by decide))]; exact hfo_168
                have hfr0 : ∀ b, kd b ≠ 12 → kd b ≠ 575 → f_178 b = f b := fun b q12 q575 => (congrFun ef_178 b).trans ((up_ne (fun e9 => q575 (by rw [e9]; exact ka_1))).trans (hfr0 b q12 q575))
                have hrA12 : ∀ b, kd b = 12 → ∀ j, fldR (f_178 b) j = fldR (f b) j := fun b kb j => (congrArg (fun x => fldR x j) ((congrFun ef_178 b).trans (up_ne (kd_ne ka_1 kb (by decide))))).trans (hrA12 b kb j)
                have hfA12 : ∀ b, kd b = 12 → ∀ j, j ≠ 5 → fldI (f_178 b) j = fldI (f b) j := fun b kb j n5 => (congrArg (fun x => fldI x j) ((congrFun ef_178 b).trans (up_ne (kd_ne ka_1 kb (by decide))))).trans (hfA12 b kb j n5)
                have hTt_67 : wrel kd 575 42 11 f_178 a_1 := by rw [ef_178]; exact wrel.mk ka_1 up_self (by rw [eqg_176, pk_un (by omega)]; exact hTt_67.get hfo_169)
                have hfo_181 : f_178 a_1 = .inl (cI, 1560, .inl g_176) := by rw [ef_178]; exact up_self
                have ql_182 : x_175 = g_176 (Int32.toNatClampNeg x_172) := by rw [eqg_176, pk_us]
                obtain ⟨x_183, ex_183⟩ : ∃ y : Int32, y_94 + 1 = y := ⟨_, rfl⟩
                have hx_183 : x_183.toInt = y_94.toInt + 1 := by rw [← ex_183, ad_I (by rw [ti_1]; omega) (by rw [ti_1]; omega), ti_1]
                have bx_183 : (1 ≤ x_183.toInt ∧ x_183.toInt ≤ 600) := by constructor <;> omega
                refine lv_iinc (v := x_183) (lv' := [(5, .int x_183), (6, .int x_145), (4, .int y_95), (3, .int x_69), (2, .int v_6), (0, .ref o0), (1, .int p1)]) hx hb dX12_example_174 hl (k := 1) rfl ex_183 (by decide) rfl (fun ls hl => ?_)
                refine lv_goto (tgt := 63) hx hb dX12_example_177 (by decide) ?_
                exact ih_hloop_93 x_183 (by constructor <;> omega) y_95 (by constructor <;> omega) f_178 hG _ _ hP hS hD hfr0 hrA12 hfA12 hfo_179 hTt_67 (by omega) ls (lv_sub hl [0, 2, 3, 4, 5, 6] rfl)
              · skip
                rw [← Int32.toInt_inj, ti_8] at c_156
                refine lv_iconst (v := (-1)) hx hb dX12_example_129 (by decide) ?_
                exact W.iret (v := (-1)) hx hb hr (fun t ht hW => ⟨⟨(-1), f_97, rfl, ⟨hG, (by decide), hfr0, hrA12, hfA12, (by intro w5 z5 e5 d5; rw [hfo_57] at e5; rw [hfo_98] at d5; obtain rfl := Option.some.inj e5; obtain rfl := Option.some.inj d5; (try rw [ti_0]) <;> (try rw [ti_m1]) <;> omega)⟩, by rw [ht]; exact hP, va_K.moved hW.alike hK, pl_in hD⟩, hS.F ht⟩) hS.2.2 dX12_example_130
          · skip
            rw [← Int32.toInt_inj, ti_58] at c_151
            refine lv_iload hx hb dX12_example_97 (lv_at hl 2 rfl) ?_
            refine lv_if_ne (tgt := 108) hx hb dX12_example_99 (by decide) (fun c_184 => ?_) (fun c_184 => ?_)
            · skip
              rw [← Int32.toInt_inj, ti_0] at c_184
              refine lv_iload hx hb dX12_example_108 (lv_at hl 0 rfl) ?_
              refine lv_if_eq (tgt := 129) hx hb dX12_example_110 (by decide) (fun c_185 => ?_) (fun c_185 => ?_)
              · skip
                rw [← Int32.toInt_inj, ti_0] at c_185
                refine lv_iconst (v := (-1)) hx hb dX12_example_129 (by decide) ?_
                exact W.iret (v := (-1)) hx hb hr (fun t ht hW => ⟨⟨(-1), f_97, rfl, ⟨hG, (by decide), hfr0, hrA12, hfA12, (by intro w5 z5 e5 d5; rw [hfo_57] at e5; rw [hfo_98] at d5; obtain rfl := Option.some.inj e5; obtain rfl := Option.some.inj d5; (try rw [ti_0]) <;> (try rw [ti_m1]) <;> omega)⟩, by rw [ht]; exact hP, va_K.moved hW.alike hK, pl_in hD⟩, hS.F ht⟩) hS.2.2 dX12_example_130
              · skip
                rw [← Int32.toInt_inj, ti_0] at c_185
                refine lv_aload_n hx hb dX12_example_113 rfl (lv_at hl 5 rfl) ?_
                refine tk_getP (D := (dC, dI)) (ci := 12) (v := .ref a_1) (C := RX12) (T := TX12) (N := 56) hx hb hU inlX12 hown hK hP mo0 hfo_98 rfl 0 (by decide) (hU _ wd_169) (fun _ h9 => h9) rfl dX12_example_114 ?_
                refine lv_iload_n hx hb dX12_example_117 rfl (lv_at hl 3 rfl) ?_
                refine lv_iconst (v := 1) hx hb dX12_example_118 (by decide) ?_
                refine lv_iadd hx hb dX12_example_119 ?_
                refine lv_topi (fun x_186 ex_186 => ?_)
                have hx_186 : x_186.toInt = x_69.toInt + 1 := by rw [ex_186, ad_I (by rw [ti_1]; omega) (by rw [ti_1]; omega), ti_1]
                have bx_186 : (221 ≤ x_186.toInt ∧ x_186.toInt ≤ 441) := by constructor <;> omega
                refine lv_iload hx hb dX12_example_120 (lv_at hl 2 rfl) ?_
                refine lv_iadd hx hb dX12_example_122 ?_
                refine lv_topi (fun x_187 ex_187 => ?_)
                have hx_187 : x_187.toInt = x_186.toInt + y_95.toInt := by rw [ex_187, ad_I (by omega) (by omega)]
                have bx_187 : (222 ≤ x_187.toInt ∧ x_187.toInt ≤ 442) := by constructor <;> omega
                refine tk_ildP hx hb hK hP 0 ma_1 hfo_149 rfl (vp_in_iff.mpr (by constructor <;> omega)) dX12_example_123 ?_
                refine lv_topi (fun x_188 ex_188 => ?_)
                have bx_188 : (0 ≤ x_188.toInt ∧ x_188.toInt ≤ 8) := by have hc9 := cl_I (i := x_187) (by omega); rw [ex_188]; exact hbg_150.2.2.2.2.2.2.2.2.2.2.1 _ (by omega) (by omega) (by omega)
                refine lv_bipush (v := 8) hx hb dX12_example_124 (by decide) ?_
                refine lv_icmp_ne (tgt := 131) hx hb dX12_example_126 (by decide) (fun c_189 => ?_) (fun c_189 => ?_)
                · skip
                  rw [← Int32.toInt_inj, ti_8] at c_189
                  refine lv_aload_n hx hb dX12_example_131 rfl (lv_at hl 5 rfl) ?_
                  refine tk_getP (D := (dC, dI)) (ci := 12) (v := .ref a_1) (C := RX12) (T := TX12) (N := 56) hx hb hU inlX12 hown hK hP mo0 hfo_98 rfl 0 (by decide) (hU _ wd_169) (fun _ h9 => h9) rfl dX12_example_132 ?_
                  refine lv_iload_n hx hb dX12_example_135 rfl (lv_at hl 3 rfl) ?_
                  refine lv_iconst (v := 3) hx hb dX12_example_136 (by decide) ?_
                  refine lv_iadd hx hb dX12_example_137 ?_
                  refine lv_topi (fun x_190 ex_190 => ?_)
                  have hx_190 : x_190.toInt = x_69.toInt + 3 := by rw [ex_190, ad_I (by rw [ti_3]; omega) (by rw [ti_3]; omega), ti_3]
                  have bx_190 : (223 ≤ x_190.toInt ∧ x_190.toInt ≤ 443) := by constructor <;> omega
                  refine lv_bipush (v := 8) hx hb dX12_example_138 (by decide) ?_
                  refine lv_iload hx hb dX12_example_140 (lv_at hl 2 rfl) ?_
                  refine lv_imul hx hb dX12_example_142 ?_
                  refine lv_topi (fun x_191 ex_191 => ?_)
                  have hx_191 : x_191.toInt = 8 * y_95.toInt := by rw [ex_191, ml_I (by rw [ti_8]; omega) (by rw [ti_8]; omega), ti_8]
                  have bx_191 : (8 ≤ x_191.toInt ∧ x_191.toInt ≤ 8) := by constructor <;> omega
                  refine lv_iadd hx hb dX12_example_143 ?_
                  refine lv_topi (fun x_192 ex_192 => ?_)
                  have hx_192 : x_192.toInt = x_190.toInt + x_191.toInt := by rw [ex_192, ad_I (by omega) (by omega)]
                  have bx_192 : (231 ≤ x_192.toInt ∧ x_192.toInt ≤ 451) := by constructor <;> omega
                  refine lv_aload_n hx hb dX12_example_144 rfl (lv_at hl 5 rfl) ?_
                  refine tk_getP (D := (dC, dI)) (ci := 12) (v := .ref a_1) (C := RX12) (T := TX12) (N := 56) hx hb hU inlX12 hown hK hP mo0 hfo_98 rfl 0 (by decide) (hU _ wd_169) (fun _ h9 => h9) rfl dX12_example_145 ?_
                  refine lv_iload_n hx hb dX12_example_148 rfl (lv_at hl 3 rfl) ?_
                  refine lv_iconst (v := 1) hx hb dX12_example_149 (by decide) ?_
                  refine lv_iadd hx hb dX12_example_150 ?_
                  refine lv_topi (fun x_193 ex_193 => ?_)
                  have hx_193 : x_193.toInt = x_69.toInt + 1 := by rw [ex_193, ad_I (by rw [ti_1]; omega) (by rw [ti_1]; omega), ti_1]
                  have bx_193 : (221 ≤ x_193.toInt ∧ x_193.toInt ≤ 441) := by constructor <;> omega
                  refine lv_iload hx hb dX12_example_151 (lv_at hl 2 rfl) ?_
                  refine lv_iadd hx hb dX12_example_153 ?_
                  refine lv_topi (fun x_194 ex_194 => ?_)
                  have hx_194 : x_194.toInt = x_193.toInt + y_95.toInt := by rw [ex_194, ad_I (by omega) (by omega)]
                  have bx_194 : (222 ≤ x_194.toInt ∧ x_194.toInt ≤ 442) := by constructor <;> omega
                  refine tk_ildP hx hb hK hP 0 ma_1 hfo_149 rfl (vp_in_iff.mpr (by constructor <;> omega)) dX12_example_154 ?_
                  refine lv_topi (fun x_195 ex_195 => ?_)
                  have bx_195 : (0 ≤ x_195.toInt ∧ x_195.toInt ≤ 8) := by have hc9 := cl_I (i := x_194) (by omega); rw [ex_195]; exact hbg_150.2.2.2.2.2.2.2.2.2.2.1 _ (by omega) (by omega) (by omega)
                  refine lv_iadd hx hb dX12_example_155 ?_
                  refine lv_topi (fun x_196 ex_196 => ?_)
                  have hx_196 : x_196.toInt = x_192.toInt + x_195.toInt := by rw [ex_196, ad_I (by omega) (by omega)]
                  have bx_196 : (231 ≤ x_196.toInt ∧ x_196.toInt ≤ 459) := by constructor <;> omega
                  refine lv_iload hx hb dX12_example_156 (lv_at hl 0 rfl) ?_
                  refine tk_istP hx hb hK hP hD hS 0 ma_1 hfo_149 rfl (vp_in_iff.mpr (by constructor <;> omega)) dX12_example_158 (fun H locs hP hD hS => ?_)
                  have hc9 := cl_I (i := x_196) (by omega)
                  obtain ⟨g_197, eqg_197⟩ : ∃ y : Nat → Int32, y = upd g_150 (Int32.toNatClampNeg x_196) x_145 := ⟨_, rfl⟩
                  rw [← eqg_197] at hP hD
                  have hbg_197 : wOK g_197 := by rw [eqg_197]; exact ⟨hbg_150.1.up (fun h1 h2 h3 => by exfalso; omega), hbg_150.2.1.up (fun h1 h2 h3 => by exfalso; omega), hbg_150.2.2.1.up (fun h1 h2 h3 => by exfalso; omega), hbg_150.2.2.2.1.up (fun h1 h2 h3 => by exfalso; omega), hbg_150.2.2.2.2.1.up (fun h1 h2 h3 => by exfalso; omega), hbg_150.2.2.2.2.2.1.up (fun h1 h2 h3 => by exfalso; omega), hbg_150.2.2.2.2.2.2.1.up (fun h1 h2 h3 => by exfalso; omega), hbg_150.2.2.2.2.2.2.2.1.up (fun h1 h2 h3 => by exfalso; omega), hbg_150.2.2.2.2.2.2.2.2.1.up (fun h1 h2 h3 => by exfalso; omega), hbg_150.2.2.2.2.2.2.2.2.2.1.up (fun h1 h2 h3 => by exfalso; omega), hbg_150.2.2.2.2.2.2.2.2.2.2.1.up (fun h1 h2 h3 => by constructor <;> omega), hbg_150.2.2.2.2.2.2.2.2.2.2.2.1.up (fun h1 h2 h3 => by exfalso; omega), hbg_150.2.2.2.2.2.2.2.2.2.2.2.2.1.up (fun h1 h2 h3 => by exfalso; omega), hbg_150.2.2.2.2.2.2.2.2.2.2.2.2.2.1.up (fun h1 h2 h3 => by exfalso; omega), hbg_150.2.2.2.2.2.2.2.2.2.2.2.2.2.2.1.up (fun h1 h2 h3 => by exfalso; omega), hbg_150.2.2.2.2.2.2.2.2.2.2.2.2.2.2.2.up (fun h1 h2 h3 => by exfalso; omega)⟩
                  obtain ⟨f_199, ef_199⟩ : ∃ y : Nat → va_E, y = va_up f_97 a_1 (.inl (cI, 1560, .inl g_197)) := ⟨_, rfl⟩
                  have hP : va_P (dC, dI) vwCl (va_pl L f_199) H := by rw [ef_199]; exact hP
                  have hD : va_D (fun q => q ∈ L) (va_pl L f_199) := by rw [ef_199]; exact hD
                  have hG : GI (okc cI cL cZ cR cG cH L kd) kd L f_199 := by rw [ef_199]; exact hG.set a_1 (mk_575 ka_1 ⟨_, rfl, hbg_197⟩)
                  have hfo_200 : f_199 o0 = .inr (12, [.ref a_1, .ref a_2, .ref a_3, .int v_4, .ref a_5, .int 0, .int v_7, .int v_8, .int v_9, .int v_10, .int v_11, .int v_12, .int v_13, .int v_14, .int v_15, .ref a_16, .ref a_17, .ref a_18, .ref a_19, .ref a_20, .ref a_21, .ref a_22, .ref a_23, .int v_24, .int v_25, .int v_26, .int v_27, .int v_28, .ref a_29, .int v_30, .ref a_31, .ref a_32, .int v_33, .int v_34, .ref a_35, .int v_36, .ref a_37, .ref a_38, .int v_39, .int v_40, .ref a_41, .ref a_42, .ref a_43, .int v_44, .ref a_45, .ref a_46, .ref a_47, .ref a_48, .ref a_49, .ref a_50, .ref a_51, .ref a_52, .ref a_53, .int v_54, .int v_55, .ref a_56]) := by rw [ef_199, up_ne (kd_ne ka_1 ko0 (by decide))]; exact hfo_98
                  have hfo_201 : f_199 a_5 = .inl (cI, 600, .inl g_143) := by rw [ef_199, up_ne (kd_ne ka_1 ka_5 (by decide))]; exact hfo_142
                  have hfr0 : ∀ b, kd b ≠ 12 → kd b ≠ 575 → f_199 b = f b := fun b q12 q575 => (congrFun ef_199 b).trans ((up_ne (fun e9 => q575 (by rw [e9]; exact ka_1))).trans (hfr0 b q12 q575))
                  have hrA12 : ∀ b, kd b = 12 → ∀ j, fldR (f_199 b) j = fldR (f b) j := fun b kb j => (congrArg (fun x => fldR x j) ((congrFun ef_199 b).trans (up_ne (kd_ne ka_1 kb (by decide))))).trans (hrA12 b kb j)
                  have hfA12 : ∀ b, kd b = 12 → ∀ j, j ≠ 5 → fldI (f_199 b) j = fldI (f b) j := fun b kb j n5 => (congrArg (fun x => fldI x j) ((congrFun ef_199 b).trans (up_ne (kd_ne ka_1 kb (by decide))))).trans (hfA12 b kb j n5)
                  have hTt_67 : wrel kd 575 42 11 f_199 a_1 := by rw [ef_199]; exact wrel.mk ka_1 up_self (by rw [eqg_197, pk_un (by omega)]; exact hTt_67.get hfo_149)
                  have hfo_202 : f_199 a_1 = .inl (cI, 1560, .inl g_197) := by rw [ef_199]; exact up_self
                  have ql_203 : x_145 = g_197 (Int32.toNatClampNeg x_196) := by rw [eqg_197, pk_us]
                  refine lv_aload_n hx hb dX12_example_159 rfl (lv_at hl 5 rfl) ?_
                  refine tk_getP (D := (dC, dI)) (ci := 12) (v := .ref a_1) (C := RX12) (T := TX12) (N := 56) hx hb hU inlX12 hown hK hP mo0 hfo_200 rfl 0 (by decide) (hU _ wd_169) (fun _ h9 => h9) rfl dX12_example_160 ?_
                  refine lv_iload_n hx hb dX12_example_163 rfl (lv_at hl 3 rfl) ?_
                  refine lv_iconst (v := 1) hx hb dX12_example_164 (by decide) ?_
                  refine lv_iadd hx hb dX12_example_165 ?_
                  refine lv_topi (fun x_204 ex_204 => ?_)
                  have hx_204 : x_204.toInt = x_69.toInt + 1 := by rw [ex_204, ad_I (by rw [ti_1]; omega) (by rw [ti_1]; omega), ti_1]
                  have bx_204 : (221 ≤ x_204.toInt ∧ x_204.toInt ≤ 441) := by constructor <;> omega
                  refine lv_iload hx hb dX12_example_166 (lv_at hl 2 rfl) ?_
                  refine lv_iadd hx hb dX12_example_168 ?_
                  refine lv_topi (fun x_205 ex_205 => ?_)
                  have hx_205 : x_205.toInt = x_204.toInt + y_95.toInt := by rw [ex_205, ad_I (by omega) (by omega)]
                  have bx_205 : (222 ≤ x_205.toInt ∧ x_205.toInt ≤ 442) := by constructor <;> omega
                  refine lv_dup2_11 hx hb dX12_example_169 rfl rfl ?_
                  refine tk_ildP hx hb hK hP 0 ma_1 hfo_202 rfl (vp_in_iff.mpr (by constructor <;> omega)) dX12_example_170 ?_
                  refine lv_topi (fun x_206 ex_206 => ?_)
                  have bx_206 : (0 ≤ x_206.toInt ∧ x_206.toInt ≤ 8) := by have hc9 := cl_I (i := x_205) (by omega); rw [ex_206]; exact hbg_197.2.2.2.2.2.2.2.2.2.2.1 _ (by omega) (by omega) (by omega)
                  have hnrc_207 : (0 ≤ x_206.toInt ∧ x_206.toInt ≤ 7) := by have hci := cl_I (i := x_187) (by omega); have hcj := cl_I (i := x_205) (by omega); have hc0 := cl_I (i := x_196) (by omega); have h7 : x_206 = x_188 := (by rw [ex_206, eqg_197, pk_un (by omega), ex_188]; congr 1; omega); rw [h7]; constructor <;> omega
                  refine lv_iconst (v := 1) hx hb dX12_example_171 (by decide) ?_
                  refine lv_iadd hx hb dX12_example_172 ?_
                  refine lv_topi (fun x_208 ex_208 => ?_)
                  have hx_208 : x_208.toInt = x_206.toInt + 1 := by rw [ex_208, ad_I (by rw [ti_1]; omega) (by rw [ti_1]; omega), ti_1]
                  have bx_208 : (1 ≤ x_208.toInt ∧ x_208.toInt ≤ 8) := by constructor <;> omega
                  refine tk_istP hx hb hK hP hD hS 0 ma_1 hfo_202 rfl (vp_in_iff.mpr (by constructor <;> omega)) dX12_example_173 (fun H locs hP hD hS => ?_)
                  have hc9 := cl_I (i := x_205) (by omega)
                  obtain ⟨g_209, eqg_209⟩ : ∃ y : Nat → Int32, y = upd g_197 (Int32.toNatClampNeg x_205) x_208 := ⟨_, rfl⟩
                  rw [← eqg_209] at hP hD
                  have hbg_209 : wOK g_209 := by rw [eqg_209]; exact ⟨hbg_197.1.up (fun h1 h2 h3 => by exfalso; omega), hbg_197.2.1.up (fun h1 h2 h3 => by exfalso; omega), hbg_197.2.2.1.up (fun h1 h2 h3 => by exfalso; omega), hbg_197.2.2.2.1.up (fun h1 h2 h3 => by exfalso; omega), hbg_197.2.2.2.2.1.up (fun h1 h2 h3 => by exfalso; omega), hbg_197.2.2.2.2.2.1.up (fun h1 h2 h3 => by exfalso; omega), hbg_197.2.2.2.2.2.2.1.up (fun h1 h2 h3 => by exfalso; omega), hbg_197.2.2.2.2.2.2.2.1.up (fun h1 h2 h3 => by exfalso; omega), hbg_197.2.2.2.2.2.2.2.2.1.up (fun h1 h2 h3 => by exfalso; omega), hbg_197.2.2.2.2.2.2.2.2.2.1.up (fun h1 h2 h3 => by exfalso; omega), hbg_197.2.2.2.2.2.2.2.2.2.2.1.up (fun h1 h2 h3 => by constructor <;> omega), hbg_197.2.2.2.2.2.2.2.2.2.2.2.1.up (fun h1 h2 h3 => by exfalso; omega), hbg_197.2.2.2.2.2.2.2.2.2.2.2.2.1.up (fun h1 h2 h3 => by exfalso; omega), hbg_197.2.2.2.2.2.2.2.2.2.2.2.2.2.1.up (fun h1 h2 h3 => by exfalso; omega), hbg_197.2.2.2.2.2.2.2.2.2.2.2.2.2.2.1.up (fun h1 h2 h3 => by exfalso; omega), hbg_197.2.2.2.2.2.2.2.2.2.2.2.2.2.2.2.up (fun h1 h2 h3 => by exfalso; omega)⟩
                  obtain ⟨f_211, ef_211⟩ : ∃ y : Nat → va_E, y = va_up f_199 a_1 (.inl (cI, 1560, .inl g_209)) := ⟨_, rfl⟩
                  have hP : va_P (dC, dI) vwCl (va_pl L f_211) H := by rw [ef_211]; exact hP
                  have hD : va_D (fun q => q ∈ L) (va_pl L f_211) := by rw [ef_211]; exact hD
                  have hG : GI (okc cI cL cZ cR cG cH L kd) kd L f_211 := by rw [ef_211]; exact hG.set a_1 (mk_575 ka_1 ⟨_, rfl, hbg_209⟩)
                  have hfo_212 : f_211 o0 = .inr (12, [.ref a_1, .ref a_2, .ref a_3, .int v_4, .ref a_5, .int 0, .int v_7, .int v_8, .int v_9, .int v_10, .int v_11, .int v_12, .int v_13, .int v_14, .int v_15, .ref a_16, .ref a_17, .ref a_18, .ref a_19, .ref a_20, .ref a_21, .ref a_22, .ref a_23, .int v_24, .int v_25, .int v_26, .int v_27, .int v_28, .ref a_29, .int v_30, .ref a_31, .ref a_32, .int v_33, .int v_34, .ref a_35, .int v_36, .ref a_37, .ref a_38, .int v_39, .int v_40, .ref a_41, .ref a_42, .ref a_43, .int v_44, .ref a_45, .ref a_46, .ref a_47, .ref a_48, .ref a_49, .ref a_50, .ref a_51, .ref a_52, .ref a_53, .int v_54, .int v_55, .ref a_56]) := by rw [ef_211, up_ne (kd_ne ka_1 ko0 (by decide))]; exact hfo_200
                  have hfo_213 : f_211 a_5 = .inl (cI, 600, .inl g_143) := by rw [ef_211, up_ne (kd_ne ka_1 ka_5 (by decide))]; exact hfo_201
                  have hfr0 : ∀ b, kd b ≠ 12 → kd b ≠ 575 → f_211 b = f b := fun b q12 q575 => (congrFun ef_211 b).trans ((up_ne (fun e9 => q575 (by rw [e9]; exact ka_1))).trans (hfr0 b q12 q575))
                  have hrA12 : ∀ b, kd b = 12 → ∀ j, fldR (f_211 b) j = fldR (f b) j := fun b kb j => (congrArg (fun x => fldR x j) ((congrFun ef_211 b).trans (up_ne (kd_ne ka_1 kb (by decide))))).trans (hrA12 b kb j)
                  have hfA12 : ∀ b, kd b = 12 → ∀ j, j ≠ 5 → fldI (f_211 b) j = fldI (f b) j := fun b kb j n5 => (congrArg (fun x => fldI x j) ((congrFun ef_211 b).trans (up_ne (kd_ne ka_1 kb (by decide))))).trans (hfA12 b kb j n5)
                  have hTt_67 : wrel kd 575 42 11 f_211 a_1 := by rw [ef_211]; exact wrel.mk ka_1 up_self (by rw [eqg_209, pk_un (by omega)]; exact hTt_67.get hfo_202)
                  have hfo_214 : f_211 a_1 = .inl (cI, 1560, .inl g_209) := by rw [ef_211]; exact up_self
                  have ql_215 : x_208 = g_209 (Int32.toNatClampNeg x_205) := by rw [eqg_209, pk_us]
                  obtain ⟨x_216, ex_216⟩ : ∃ y : Int32, y_94 + 1 = y := ⟨_, rfl⟩
                  have hx_216 : x_216.toInt = y_94.toInt + 1 := by rw [← ex_216, ad_I (by rw [ti_1]; omega) (by rw [ti_1]; omega), ti_1]
                  have bx_216 : (1 ≤ x_216.toInt ∧ x_216.toInt ≤ 600) := by constructor <;> omega
                  refine lv_iinc (v := x_216) (lv' := [(5, .int x_216), (6, .int x_145), (4, .int y_95), (3, .int x_69), (2, .int v_6), (0, .ref o0), (1, .int p1)]) hx hb dX12_example_174 hl (k := 1) rfl ex_216 (by decide) rfl (fun ls hl => ?_)
                  refine lv_goto (tgt := 63) hx hb dX12_example_177 (by decide) ?_
                  exact ih_hloop_93 x_216 (by constructor <;> omega) y_95 (by constructor <;> omega) f_211 hG _ _ hP hS hD hfr0 hrA12 hfA12 hfo_212 hTt_67 (by omega) ls (lv_sub hl [0, 2, 3, 4, 5, 6] rfl)
                · skip
                  rw [← Int32.toInt_inj, ti_8] at c_189
                  refine lv_iconst (v := (-1)) hx hb dX12_example_129 (by decide) ?_
                  exact W.iret (v := (-1)) hx hb hr (fun t ht hW => ⟨⟨(-1), f_97, rfl, ⟨hG, (by decide), hfr0, hrA12, hfA12, (by intro w5 z5 e5 d5; rw [hfo_57] at e5; rw [hfo_98] at d5; obtain rfl := Option.some.inj e5; obtain rfl := Option.some.inj d5; (try rw [ti_0]) <;> (try rw [ti_m1]) <;> omega)⟩, by rw [ht]; exact hP, va_K.moved hW.alike hK, pl_in hD⟩, hS.F ht⟩) hS.2.2 dX12_example_130
            · skip
              rw [← Int32.toInt_inj, ti_0] at c_184
              refine lv_iconst (v := 1) hx hb dX12_example_102 (by decide) ?_
              refine lv_istore (lv' := [(4, .int 1), (6, .int x_145), (5, .int y_94), (3, .int x_69), (2, .int v_6), (0, .ref o0), (1, .int p1)]) hx hb dX12_example_103 hl (by decide) rfl (fun ls hl => ?_)
              refine lv_goto (tgt := 174) hx hb dX12_example_105 (by decide) ?_
              obtain ⟨x_217, ex_217⟩ : ∃ y : Int32, y_94 + 1 = y := ⟨_, rfl⟩
              have hx_217 : x_217.toInt = y_94.toInt + 1 := by rw [← ex_217, ad_I (by rw [ti_1]; omega) (by rw [ti_1]; omega), ti_1]
              have bx_217 : (1 ≤ x_217.toInt ∧ x_217.toInt ≤ 600) := by constructor <;> omega
              refine lv_iinc (v := x_217) (lv' := [(5, .int x_217), (4, .int 1), (6, .int x_145), (3, .int x_69), (2, .int v_6), (0, .ref o0), (1, .int p1)]) hx hb dX12_example_174 hl (k := 2) rfl ex_217 (by decide) rfl (fun ls hl => ?_)
              refine lv_goto (tgt := 63) hx hb dX12_example_177 (by decide) ?_
              exact ih_hloop_93 x_217 (by constructor <;> omega) 1 (by decide) f_97 hG _ _ hP hS hD hfr0 hrA12 hfA12 hfo_98 hTt_67 (by (try rw [ti_1]) <;> omega) ls (lv_sub hl [0, 1, 3, 4, 5, 6] rfl)
    exact hloop_93 601 0 (by decide) 0 (by decide) f_81 hG _ _ hP hS hD hfr0 hrA12 hfA12 hfo_82 hTt_67 (by (try rw [ti_0]) <;> omega) ls hl
  · skip
    rw [← Int32.toInt_inj, ti_12] at c_66
    refine lv_iconst (v := (-1)) hx hb dX12_example_22 (by decide) ?_
    exact W.iret (v := (-1)) hx hb hr (fun t ht hW => ⟨⟨(-1), f_61, rfl, ⟨hG, (by decide), hfr0, hrA12, hfA12, (by intro w5 z5 e5 d5; rw [hfo_57] at e5; rw [hfo_62] at d5; obtain rfl := Option.some.inj e5; obtain rfl := Option.some.inj d5; (try rw [ti_0]) <;> (try rw [ti_m1]) <;> omega)⟩, by rw [ht]; exact hP, va_K.moved hW.alike hK, pl_in hD⟩, hS.F ht⟩) hS.2.2 dX12_example_23
