set_option maxHeartbeats 8000000 in
set_option maxRecDepth 100000 in
theorem s_X12_example_k12 (l : Launch) (D : va_G) (cI cL cZ cR cG cH : ClassId) (Z : zT) (kd : Nat → Nat) (L : List Nat) (f : Nat → va_E) (hG : GI (okc cI cL cZ cR cG cH L kd) kd L f) (o0 : Nat) (mo0 : o0 ∈ L) (ko0 : kd o0 = 12) (p1 : Int32) (bp1 : (0 ≤ p1.toInt ∧ p1.toInt ≤ 1)) : mPI l D cI cL cZ cR cG cH Z yX12_example cX12_example 7 (some .int) 1 22 [.ref o0, .int p1] L f (fun (r : Int32) (f9 : Nat → va_E) => GI (okc cI cL cZ cR cG cH L kd) kd L f9 ∧ ((-2147483648) ≤ r.toInt ∧ r.toInt ≤ 2147483647) ∧ (∀ b, kd b ≠ 12 → kd b ≠ 575 → f9 b = f b) ∧ (∀ b, kd b = 12 → ∀ j, fldR (f9 b) j = fldR (f b) j) ∧ (∀ b, kd b = 12 → ∀ j, j ≠ 5 → fldI (f9 b) j = fldI (f b) j) ∧ (∀ (w5 z5 : Int32), fldI (f o0) 5 = some w5 → fldI (f9 o0) 5 = some z5 → z5.toInt = 0)) := by
  obtain ⟨dC, dI⟩ := D
  refine Met.ofW (cc := cX12_example) (maxL := 7) (ret := (some .int)) (by decide) rfl ?_
  intro p e s m args below meth c s₁ B hml hv
  obtain ⟨rfl, hP, hK, hD0, hN, hZ⟩ := hv
  have hx := B.exec
  have hb := B.bytes
  have hr := B.returns
  have hU : ∀ w ∈ wsU, w.before _ s = true := fun w h => atoms_spec (ws := wU yX12_example cX12_example 7 (some .int)) B.pre w (List.mem_cons_of_mem _ h)
  have hown : s.vm.findClass RX12 = some m.cls := findClass_of_methodNamed B.named
  have hlocks := B.notSynchronized
  have hD := pl_in hD0
  have hS : va_S (fun q => q ∈ L) s.heap s.heap [] := va_S.rf
  have hl := lv_entry ([.ref o0, .int p1]) (n := 7) (Nat.le_of_ble_eq_true rfl)
  rw [lg_entry_eq]
  generalize (lg_sl ([.ref o0, .int p1]) ++ List.replicate (7 - (lg_sl ([.ref o0, .int p1])).length) Slot.unset).toArray = ls at hl ⊢
  have hl : lv_has ls 7 [(0, .ref o0), (1, .int p1)] := hl
  have hfr0 : ∀ b, kd b ≠ 12 → kd b ≠ 575 → f b = f b := fun _ _ _ => rfl
  have hrA12 : ∀ b, kd b = 12 → ∀ j, fldR (f b) j = fldR (f b) j := fun _ _ _ => rfl
  have hfA12 : ∀ b, kd b = 12 → ∀ j, j ≠ 5 → fldI (f b) j = fldI (f b) j := fun _ _ _ _ => rfl
  obtain ⟨a_2, a_3, a_4, v_5, a_6, v_7, v_8, v_9, v_10, v_11, v_12, v_13, v_14, v_15, v_16, a_17, a_18, a_19, a_20, a_21, a_22, a_23, a_24, v_25, v_26, v_27, v_28, v_29, a_30, v_31, a_32, a_33, v_34, v_35, a_36, v_37, a_38, a_39, v_40, v_41, a_42, a_43, a_44, v_45, a_46, a_47, a_48, a_49, a_50, a_51, a_52, a_53, a_54, v_55, v_56, a_57, hfo_1, ⟨ma_2, ka_2⟩, ⟨ma_3, ka_3⟩, ⟨ma_4, ka_4⟩, bv_5, ⟨ma_6, ka_6⟩, bv_7, bv_8, bv_13, bv_14, bv_15, ⟨ma_17, ka_17⟩, ⟨ma_18, ka_18⟩, ⟨ma_19, ka_19⟩, ⟨ma_20, ka_20⟩, ⟨ma_21, ka_21⟩, ⟨ma_22, ka_22⟩, ⟨ma_23, ka_23⟩, ⟨ma_24, ka_24⟩, bv_25, bv_27, bv_29, ⟨ma_30, ka_30⟩, bv_31, ⟨ma_32, ka_32⟩, ⟨ma_33, ka_33⟩, bv_34, ⟨ma_36, ka_36⟩, bv_37, ⟨ma_38, ka_38⟩, ⟨ma_39, ka_39⟩, bv_40, ⟨ma_42, ka_42⟩, ⟨ma_43, ka_43⟩, ⟨ma_44, ka_44⟩, bv_45, ⟨ma_46, ka_46⟩, ⟨ma_47, ka_47⟩, ⟨ma_48, ka_48⟩, ⟨ma_49, ka_49⟩, ⟨ma_50, ka_50⟩, ⟨ma_51, ka_51⟩, ⟨ma_52, ka_52⟩, ⟨ma_53, ka_53⟩, ⟨ma_54, ka_54⟩, bv_55, ⟨ma_57, ka_57⟩⟩ := un_12 (hG _ mo0) ko0
  have bv_9 : ((-2147483648) ≤ v_9.toInt ∧ v_9.toInt ≤ 2147483647) := ⟨i32_lo _, i32_hi _⟩
  have bv_10 : ((-2147483648) ≤ v_10.toInt ∧ v_10.toInt ≤ 2147483647) := ⟨i32_lo _, i32_hi _⟩
  have bv_11 : ((-2147483648) ≤ v_11.toInt ∧ v_11.toInt ≤ 2147483647) := ⟨i32_lo _, i32_hi _⟩
  have bv_12 : ((-2147483648) ≤ v_12.toInt ∧ v_12.toInt ≤ 2147483647) := ⟨i32_lo _, i32_hi _⟩
  have bv_16 : ((-2147483648) ≤ v_16.toInt ∧ v_16.toInt ≤ 2147483647) := ⟨i32_lo _, i32_hi _⟩
  have bv_26 : ((-2147483648) ≤ v_26.toInt ∧ v_26.toInt ≤ 2147483647) := ⟨i32_lo _, i32_hi _⟩
  have bv_28 : ((-2147483648) ≤ v_28.toInt ∧ v_28.toInt ≤ 2147483647) := ⟨i32_lo _, i32_hi _⟩
  have bv_35 : ((-2147483648) ≤ v_35.toInt ∧ v_35.toInt ≤ 2147483647) := ⟨i32_lo _, i32_hi _⟩
  have bv_41 : ((-2147483648) ≤ v_41.toInt ∧ v_41.toInt ≤ 2147483647) := ⟨i32_lo _, i32_hi _⟩
  have bv_56 : ((-2147483648) ≤ v_56.toInt ∧ v_56.toInt ≤ 2147483647) := ⟨i32_lo _, i32_hi _⟩
  refine lv_aload_n hx hb dX12_example_0 rfl (lv_at hl 0 rfl) ?_
  refine tk_getP (D := (dC, dI)) (ci := 12) (v := .int v_7) (C := RX12) (T := TX12) (N := 56) hx hb hU inlX12 hown hK hP mo0 hfo_1 rfl 5 (by decide) (hU _ wd_218) (fun _ h9 => h9) rfl dX12_example_1 ?_
  refine lv_istore_n (lv' := [(2, .int v_7), (0, .ref o0), (1, .int p1)]) hx hb dX12_example_4 rfl hl (by decide) rfl (fun ls hl => ?_)
  refine lv_aload_n hx hb dX12_example_5 rfl (lv_at hl 1 rfl) ?_
  refine lv_iconst (v := 0) hx hb dX12_example_6 (by decide) ?_
  refine tk_putP (D := (dC, dI)) (ci := 12) (v := .int 0) (ty := .int) (C := RX12) (T := TX12) (N := 56) hx hb hU inlX12 tyX12 tyX12_ok nmX12 hown hK hP hD hS mo0 hfo_1 rfl 5 (by decide) (hU _ wd_218) (fun _ h9 => h9) rfl (by decide +kernel) rfl rfl (Nat.le_of_ble_eq_true rfl) dX12_example_7 (fun H locs hP hD hS => ?_)
  obtain ⟨f_59, ef_59⟩ : ∃ y : Nat → va_E, y = va_up f o0 (.inr (12, [.ref a_2, .ref a_3, .ref a_4, .int v_5, .ref a_6, .int 0, .int v_8, .int v_9, .int v_10, .int v_11, .int v_12, .int v_13, .int v_14, .int v_15, .int v_16, .ref a_17, .ref a_18, .ref a_19, .ref a_20, .ref a_21, .ref a_22, .ref a_23, .ref a_24, .int v_25, .int v_26, .int v_27, .int v_28, .int v_29, .ref a_30, .int v_31, .ref a_32, .ref a_33, .int v_34, .int v_35, .ref a_36, .int v_37, .ref a_38, .ref a_39, .int v_40, .int v_41, .ref a_42, .ref a_43, .ref a_44, .int v_45, .ref a_46, .ref a_47, .ref a_48, .ref a_49, .ref a_50, .ref a_51, .ref a_52, .ref a_53, .ref a_54, .int v_55, .int v_56, .ref a_57])) := ⟨_, rfl⟩
  have hP : va_P (dC, dI) vwCl (va_pl L f_59) H := by rw [ef_59]; exact hP
  have hD : va_D (fun q => q ∈ L) (va_pl L f_59) := by rw [ef_59]; exact hD
  have hG : GI (okc cI cL cZ cR cG cH L kd) kd L f_59 := by rw [ef_59]; exact hG.set o0 (mk_12 ko0 ⟨a_2, a_3, a_4, v_5, a_6, 0, v_8, v_9, v_10, v_11, v_12, v_13, v_14, v_15, v_16, a_17, a_18, a_19, a_20, a_21, a_22, a_23, a_24, v_25, v_26, v_27, v_28, v_29, a_30, v_31, a_32, a_33, v_34, v_35, a_36, v_37, a_38, a_39, v_40, v_41, a_42, a_43, a_44, v_45, a_46, a_47, a_48, a_49, a_50, a_51, a_52, a_53, a_54, v_55, v_56, a_57, rfl, ⟨ma_2, ka_2⟩, ⟨ma_3, ka_3⟩, ⟨ma_4, ka_4⟩, (by constructor <;> omega), ⟨ma_6, ka_6⟩, (by decide), (by constructor <;> omega), (by constructor <;> omega), (by constructor <;> omega), (by constructor <;> omega), ⟨ma_17, ka_17⟩, ⟨ma_18, ka_18⟩, ⟨ma_19, ka_19⟩, ⟨ma_20, ka_20⟩, ⟨ma_21, ka_21⟩, ⟨ma_22, ka_22⟩, ⟨ma_23, ka_23⟩, ⟨ma_24, ka_24⟩, (by constructor <;> omega), (by constructor <;> omega), (by constructor <;> omega), ⟨ma_30, ka_30⟩, (by constructor <;> omega), ⟨ma_32, ka_32⟩, ⟨ma_33, ka_33⟩, (by constructor <;> omega), ⟨ma_36, ka_36⟩, (by constructor <;> omega), ⟨ma_38, ka_38⟩, ⟨ma_39, ka_39⟩, (by constructor <;> omega), ⟨ma_42, ka_42⟩, ⟨ma_43, ka_43⟩, ⟨ma_44, ka_44⟩, (by constructor <;> omega), ⟨ma_46, ka_46⟩, ⟨ma_47, ka_47⟩, ⟨ma_48, ka_48⟩, ⟨ma_49, ka_49⟩, ⟨ma_50, ka_50⟩, ⟨ma_51, ka_51⟩, ⟨ma_52, ka_52⟩, ⟨ma_53, ka_53⟩, ⟨ma_54, ka_54⟩, (by constructor <;> omega), ⟨ma_57, ka_57⟩⟩)
  have hfr0 : ∀ b, kd b ≠ 12 → kd b ≠ 575 → f_59 b = f b := fun b q12 q575 => (congrFun ef_59 b).trans ((up_ne (fun e9 => q12 (by rw [e9]; exact ko0))).trans (hfr0 b q12 q575))
  have hrA12 : ∀ b, kd b = 12 → ∀ j, fldR (f_59 b) j = fldR (f b) j := fun b kb j => ((congrArg (fun x => fldR x j) (congrFun ef_59 b)).trans (fra_up (fun j => by rw [hfo_1]; exact fr_set (k := 5) rfl rfl j) j b)).trans (hrA12 b kb j)
  have hfA12 : ∀ b, kd b = 12 → ∀ j, j ≠ 5 → fldI (f_59 b) j = fldI (f b) j := fun b kb j n5 => ((congrArg (fun x => fldI x j) (congrFun ef_59 b)).trans (fia_up (fun h9 => by rw [hfo_1]; exact fi_set (k := 5) rfl h9) n5 b)).trans (hfA12 b kb j n5)
  have hfo_60 : f_59 o0 = .inr (12, [.ref a_2, .ref a_3, .ref a_4, .int v_5, .ref a_6, .int 0, .int v_8, .int v_9, .int v_10, .int v_11, .int v_12, .int v_13, .int v_14, .int v_15, .int v_16, .ref a_17, .ref a_18, .ref a_19, .ref a_20, .ref a_21, .ref a_22, .ref a_23, .ref a_24, .int v_25, .int v_26, .int v_27, .int v_28, .int v_29, .ref a_30, .int v_31, .ref a_32, .ref a_33, .int v_34, .int v_35, .ref a_36, .int v_37, .ref a_38, .ref a_39, .int v_40, .int v_41, .ref a_42, .ref a_43, .ref a_44, .int v_45, .ref a_46, .ref a_47, .ref a_48, .ref a_49, .ref a_50, .ref a_51, .ref a_52, .ref a_53, .ref a_54, .int v_55, .int v_56, .ref a_57]) := by rw [ef_59]; exact up_self
  refine lv_aload_n hx hb dX12_example_10 rfl (lv_at hl 1 rfl) ?_
  refine tk_getP (D := (dC, dI)) (ci := 12) (v := .ref a_2) (C := RX12) (T := TX12) (N := 56) hx hb hU inlX12 hown hK hP mo0 hfo_60 rfl 0 (by decide) (hU _ wd_169) (fun _ h9 => h9) rfl dX12_example_11 ?_
  refine lv_bipush (v := 42) hx hb dX12_example_14 (by decide) ?_
  obtain ⟨g_62, hfo_61, hbg_62⟩ := un_575 (hG _ ma_2) ka_2
  refine tk_ildP hx hb hK hP 0 ma_2 hfo_61 rfl (vp_in_nI (n := 42) (by decide) (by decide)) dX12_example_16 ?_
  refine lv_topi (fun x_63 ex_63 => ?_)
  have bx_63 : (0 ≤ x_63.toInt ∧ x_63.toInt ≤ 12) := by rw [ex_63]; exact hbg_62.2.2.2.2.2.2.2.2.1 _ (by decide) (by decide) (by decide)
  refine lv_bipush (v := 12) hx hb dX12_example_17 (by decide) ?_
  refine lv_icmp_ne (tgt := 24) hx hb dX12_example_19 (by decide) (fun c_64 => ?_) (fun c_64 => ?_)
  · skip
    rw [← Int32.toInt_inj, ti_12] at c_64
    have hTt_65 : wrel kd 575 42 11 f_59 a_2 := wrel.mk ka_2 hfo_61 (by have h7 : x_63.toInt = (g_62 42).toInt := (by rw [ex_63]; rfl); omega)
    refine lv_sipush (v := 220) hx hb dX12_example_24 (by decide) ?_
    refine lv_bipush (v := 20) hx hb dX12_example_27 (by decide) ?_
    refine lv_aload_n hx hb dX12_example_29 rfl (lv_at hl 1 rfl) ?_
    refine tk_getP (D := (dC, dI)) (ci := 12) (v := .ref a_2) (C := RX12) (T := TX12) (N := 56) hx hb hU inlX12 hown hK hP mo0 hfo_60 rfl 0 (by decide) (hU _ wd_169) (fun _ h9 => h9) rfl dX12_example_30 ?_
    refine lv_bipush (v := 42) hx hb dX12_example_33 (by decide) ?_
    refine tk_ildP hx hb hK hP 0 ma_2 hfo_61 rfl (vp_in_nI (n := 42) (by decide) (by decide)) dX12_example_35 ?_
    refine tk_topi (y := x_63) ex_63.symm ?_
    refine lv_imul hx hb dX12_example_36 ?_
    refine lv_topi (fun x_66 ex_66 => ?_)
    have hx_66 : x_66.toInt = 20 * x_63.toInt := by rw [ex_66, ml_I (by rw [ti_20]; omega) (by rw [ti_20]; omega), ti_20]
    have bx_66 : (0 ≤ x_66.toInt ∧ x_66.toInt ≤ 220) := by constructor <;> omega
    refine lv_iadd hx hb dX12_example_37 ?_
    refine lv_topi (fun x_67 ex_67 => ?_)
    have hx_67 : x_67.toInt = 220 + x_66.toInt := by rw [ex_67, ad_I (by rw [ti_220]; omega) (by rw [ti_220]; omega), ti_220]
    have bx_67 : (220 ≤ x_67.toInt ∧ x_67.toInt ≤ 440) := by constructor <;> omega
    refine lv_istore_n (lv' := [(3, .int x_67), (2, .int v_7), (0, .ref o0), (1, .int p1)]) hx hb dX12_example_38 rfl hl (by decide) rfl (fun ls hl => ?_)
    refine lv_iconst (v := 0) hx hb dX12_example_39 (by decide) ?_
    refine lv_istore (lv' := [(4, .int 0), (3, .int x_67), (2, .int v_7), (0, .ref o0), (1, .int p1)]) hx hb dX12_example_40 hl (by decide) rfl (fun ls hl => ?_)
    refine lv_aload_n hx hb dX12_example_42 rfl (lv_at hl 3 rfl) ?_
    refine tk_getP (D := (dC, dI)) (ci := 12) (v := .ref a_2) (C := RX12) (T := TX12) (N := 56) hx hb hU inlX12 hown hK hP mo0 hfo_60 rfl 0 (by decide) (hU _ wd_169) (fun _ h9 => h9) rfl dX12_example_43 ?_
    refine lv_iload_n hx hb dX12_example_46 rfl (lv_at hl 1 rfl) ?_
    refine lv_iconst (v := 1) hx hb dX12_example_47 (by decide) ?_
    refine lv_iadd hx hb dX12_example_48 ?_
    refine lv_topi (fun x_68 ex_68 => ?_)
    have hx_68 : x_68.toInt = x_67.toInt + 1 := by rw [ex_68, ad_I (by rw [ti_1]; omega) (by rw [ti_1]; omega), ti_1]
    have bx_68 : (221 ≤ x_68.toInt ∧ x_68.toInt ≤ 441) := by constructor <;> omega
    refine lv_iconst (v := 0) hx hb dX12_example_49 (by decide) ?_
    refine tk_istP hx hb hK hP hD hS 0 ma_2 hfo_61 rfl (vp_in_iff.mpr (by constructor <;> omega)) dX12_example_50 (fun H locs hP hD hS => ?_)
    have hc9 := cl_I (i := x_68) (by omega)
    obtain ⟨g_69, eqg_69⟩ : ∃ y : Nat → Int32, y = upd g_62 (Int32.toNatClampNeg x_68) 0 := ⟨_, rfl⟩
    rw [← eqg_69] at hP hD
    have hbg_69 : wOK g_69 := by rw [eqg_69]; exact ⟨hbg_62.1.up (fun h1 h2 h3 => by exfalso; omega), hbg_62.2.1.up (fun h1 h2 h3 => by exfalso; omega), hbg_62.2.2.1.up (fun h1 h2 h3 => by exfalso; omega), hbg_62.2.2.2.1.up (fun h1 h2 h3 => by exfalso; omega), hbg_62.2.2.2.2.1.up (fun h1 h2 h3 => by exfalso; omega), hbg_62.2.2.2.2.2.1.up (fun h1 h2 h3 => by exfalso; omega), hbg_62.2.2.2.2.2.2.1.up (fun h1 h2 h3 => by exfalso; omega), hbg_62.2.2.2.2.2.2.2.1.up (fun h1 h2 h3 => by exfalso; omega), hbg_62.2.2.2.2.2.2.2.2.1.up (fun h1 h2 h3 => by exfalso; omega), hbg_62.2.2.2.2.2.2.2.2.2.1.up (fun h1 h2 h3 => by exfalso; omega), hbg_62.2.2.2.2.2.2.2.2.2.2.1.up (fun h1 h2 h3 => by (try rw [ti_0]); constructor <;> omega), hbg_62.2.2.2.2.2.2.2.2.2.2.2.1.up (fun h1 h2 h3 => by exfalso; omega), hbg_62.2.2.2.2.2.2.2.2.2.2.2.2.1.up (fun h1 h2 h3 => by exfalso; omega), hbg_62.2.2.2.2.2.2.2.2.2.2.2.2.2.1.up (fun h1 h2 h3 => by exfalso; omega), hbg_62.2.2.2.2.2.2.2.2.2.2.2.2.2.2.1.up (fun h1 h2 h3 => by exfalso; omega), hbg_62.2.2.2.2.2.2.2.2.2.2.2.2.2.2.2.up (fun h1 h2 h3 => by exfalso; omega)⟩
    obtain ⟨f_71, ef_71⟩ : ∃ y : Nat → va_E, y = va_up f_59 a_2 (.inl (cI, 1560, .inl g_69)) := ⟨_, rfl⟩
    have hP : va_P (dC, dI) vwCl (va_pl L f_71) H := by rw [ef_71]; exact hP
    have hD : va_D (fun q => q ∈ L) (va_pl L f_71) := by rw [ef_71]; exact hD
    have hG : GI (okc cI cL cZ cR cG cH L kd) kd L f_71 := by rw [ef_71]; exact hG.set a_2 (mk_575 ka_2 ⟨_, rfl, hbg_69⟩)
    have hfo_72 : f_71 o0 = .inr (12, [.ref a_2, .ref a_3, .ref a_4, .int v_5, .ref a_6, .int 0, .int v_8, .int v_9, .int v_10, .int v_11, .int v_12, .int v_13, .int v_14, .int v_15, .int v_16, .ref a_17, .ref a_18, .ref a_19, .ref a_20, .ref a_21, .ref a_22, .ref a_23, .ref a_24, .int v_25, .int v_26, .int v_27, .int v_28, .int v_29, .ref a_30, .int v_31, .ref a_32, .ref a_33, .int v_34, .int v_35, .ref a_36, .int v_37, .ref a_38, .ref a_39, .int v_40, .int v_41, .ref a_42, .ref a_43, .ref a_44, .int v_45, .ref a_46, .ref a_47, .ref a_48, .ref a_49, .ref a_50, .ref a_51, .ref a_52, .ref a_53, .ref a_54, .int v_55, .int v_56, .ref a_57]) := by rw [ef_71, up_ne (kd_ne ka_2 ko0 (by decide))]; exact hfo_60
    have hfr0 : ∀ b, kd b ≠ 12 → kd b ≠ 575 → f_71 b = f b := fun b q12 q575 => (congrFun ef_71 b).trans ((up_ne (fun e9 => q575 (by rw [e9]; exact ka_2))).trans (hfr0 b q12 q575))
    have hrA12 : ∀ b, kd b = 12 → ∀ j, fldR (f_71 b) j = fldR (f b) j := fun b kb j => (congrArg (fun x => fldR x j) ((congrFun ef_71 b).trans (up_ne (kd_ne ka_2 kb (by decide))))).trans (hrA12 b kb j)
    have hfA12 : ∀ b, kd b = 12 → ∀ j, j ≠ 5 → fldI (f_71 b) j = fldI (f b) j := fun b kb j n5 => (congrArg (fun x => fldI x j) ((congrFun ef_71 b).trans (up_ne (kd_ne ka_2 kb (by decide))))).trans (hfA12 b kb j n5)
    have hTt_65 : wrel kd 575 42 11 f_71 a_2 := by rw [ef_71]; exact wrel.mk ka_2 up_self (by rw [eqg_69, pk_un (by omega)]; exact hTt_65.get hfo_61)
    have hfo_73 : f_71 a_2 = .inl (cI, 1560, .inl g_69) := by rw [ef_71]; exact up_self
    have ql_74 : x_63 = g_69 (Int32.toNatClampNeg 42) := by rw [eqg_69, pk_un (by have hc8 : Int32.toNatClampNeg 42 = 42 := rfl; omega)]; exact ex_63
    have ql_75 : 0 = g_69 (Int32.toNatClampNeg x_68) := by rw [eqg_69, pk_us]
    refine lv_aload_n hx hb dX12_example_51 rfl (lv_at hl 3 rfl) ?_
    refine tk_getP (D := (dC, dI)) (ci := 12) (v := .ref a_2) (C := RX12) (T := TX12) (N := 56) hx hb hU inlX12 hown hK hP mo0 hfo_72 rfl 0 (by decide) (hU _ wd_169) (fun _ h9 => h9) rfl dX12_example_52 ?_
    refine lv_iload_n hx hb dX12_example_55 rfl (lv_at hl 1 rfl) ?_
    refine lv_iconst (v := 2) hx hb dX12_example_56 (by decide) ?_
    refine lv_iadd hx hb dX12_example_57 ?_
    refine lv_topi (fun x_76 ex_76 => ?_)
    have hx_76 : x_76.toInt = x_67.toInt + 2 := by rw [ex_76, ad_I (by rw [ti_2]; omega) (by rw [ti_2]; omega), ti_2]
    have bx_76 : (222 ≤ x_76.toInt ∧ x_76.toInt ≤ 442) := by constructor <;> omega
    refine lv_iconst (v := 0) hx hb dX12_example_58 (by decide) ?_
    refine tk_istP hx hb hK hP hD hS 0 ma_2 hfo_73 rfl (vp_in_iff.mpr (by constructor <;> omega)) dX12_example_59 (fun H locs hP hD hS => ?_)
    have hc9 := cl_I (i := x_76) (by omega)
    obtain ⟨g_77, eqg_77⟩ : ∃ y : Nat → Int32, y = upd g_69 (Int32.toNatClampNeg x_76) 0 := ⟨_, rfl⟩
    rw [← eqg_77] at hP hD
    have hbg_77 : wOK g_77 := by rw [eqg_77]; exact ⟨hbg_69.1.up (fun h1 h2 h3 => by exfalso; omega), hbg_69.2.1.up (fun h1 h2 h3 => by exfalso; omega), hbg_69.2.2.1.up (fun h1 h2 h3 => by exfalso; omega), hbg_69.2.2.2.1.up (fun h1 h2 h3 => by exfalso; omega), hbg_69.2.2.2.2.1.up (fun h1 h2 h3 => by exfalso; omega), hbg_69.2.2.2.2.2.1.up (fun h1 h2 h3 => by exfalso; omega), hbg_69.2.2.2.2.2.2.1.up (fun h1 h2 h3 => by exfalso; omega), hbg_69.2.2.2.2.2.2.2.1.up (fun h1 h2 h3 => by exfalso; omega), hbg_69.2.2.2.2.2.2.2.2.1.up (fun h1 h2 h3 => by exfalso; omega), hbg_69.2.2.2.2.2.2.2.2.2.1.up (fun h1 h2 h3 => by exfalso; omega), hbg_69.2.2.2.2.2.2.2.2.2.2.1.up (fun h1 h2 h3 => by (try rw [ti_0]); constructor <;> omega), hbg_69.2.2.2.2.2.2.2.2.2.2.2.1.up (fun h1 h2 h3 => by exfalso; omega), hbg_69.2.2.2.2.2.2.2.2.2.2.2.2.1.up (fun h1 h2 h3 => by exfalso; omega), hbg_69.2.2.2.2.2.2.2.2.2.2.2.2.2.1.up (fun h1 h2 h3 => by exfalso; omega), hbg_69.2.2.2.2.2.2.2.2.2.2.2.2.2.2.1.up (fun h1 h2 h3 => by exfalso; omega), hbg_69.2.2.2.2.2.2.2.2.2.2.2.2.2.2.2.up (fun h1 h2 h3 => by exfalso; omega)⟩
    obtain ⟨f_79, ef_79⟩ : ∃ y : Nat → va_E, y = va_up f_71 a_2 (.inl (cI, 1560, .inl g_77)) := ⟨_, rfl⟩
    have hP : va_P (dC, dI) vwCl (va_pl L f_79) H := by rw [ef_79]; exact hP
    have hD : va_D (fun q => q ∈ L) (va_pl L f_79) := by rw [ef_79]; exact hD
    have hG : GI (okc cI cL cZ cR cG cH L kd) kd L f_79 := by rw [ef_79]; exact hG.set a_2 (mk_575 ka_2 ⟨_, rfl, hbg_77⟩)
    have hfo_80 : f_79 o0 = .inr (12, [.ref a_2, .ref a_3, .ref a_4, .int v_5, .ref a_6, .int 0, .int v_8, .int v_9, .int v_10, .int v_11, .int v_12, .int v_13, .int v_14, .int v_15, .int v_16, .ref a_17, .ref a_18, .ref a_19, .ref a_20, .ref a_21, .ref a_22, .ref a_23, .ref a_24, .int v_25, .int v_26, .int v_27, .int v_28, .int v_29, .ref a_30, .int v_31, .ref a_32, .ref a_33, .int v_34, .int v_35, .ref a_36, .int v_37, .ref a_38, .ref a_39, .int v_40, .int v_41, .ref a_42, .ref a_43, .ref a_44, .int v_45, .ref a_46, .ref a_47, .ref a_48, .ref a_49, .ref a_50, .ref a_51, .ref a_52, .ref a_53, .ref a_54, .int v_55, .int v_56, .ref a_57]) := by rw [ef_79, up_ne (kd_ne ka_2 ko0 (by decide))]; exact hfo_72
    have hfr0 : ∀ b, kd b ≠ 12 → kd b ≠ 575 → f_79 b = f b := fun b q12 q575 => (congrFun ef_79 b).trans ((up_ne (fun e9 => q575 (by rw [e9]; exact ka_2))).trans (hfr0 b q12 q575))
    have hrA12 : ∀ b, kd b = 12 → ∀ j, fldR (f_79 b) j = fldR (f b) j := fun b kb j => (congrArg (fun x => fldR x j) ((congrFun ef_79 b).trans (up_ne (kd_ne ka_2 kb (by decide))))).trans (hrA12 b kb j)
    have hfA12 : ∀ b, kd b = 12 → ∀ j, j ≠ 5 → fldI (f_79 b) j = fldI (f b) j := fun b kb j n5 => (congrArg (fun x => fldI x j) ((congrFun ef_79 b).trans (up_ne (kd_ne ka_2 kb (by decide))))).trans (hfA12 b kb j n5)
    have hTt_65 : wrel kd 575 42 11 f_79 a_2 := by rw [ef_79]; exact wrel.mk ka_2 up_self (by rw [eqg_77, pk_un (by omega)]; exact hTt_65.get hfo_73)
    have hfo_81 : f_79 a_2 = .inl (cI, 1560, .inl g_77) := by rw [ef_79]; exact up_self
    have ql_82 : x_63 = g_77 (Int32.toNatClampNeg 42) := by rw [eqg_77, pk_un (by have hc8 : Int32.toNatClampNeg 42 = 42 := rfl; omega)]; exact ql_74
    have ql_83 : 0 = g_77 (Int32.toNatClampNeg x_76) := by rw [eqg_77, pk_us]
    refine lv_iconst (v := 0) hx hb dX12_example_60 (by decide) ?_
    refine lv_istore (lv' := [(5, .int 0), (4, .int 0), (3, .int x_67), (2, .int v_7), (0, .ref o0), (1, .int p1)]) hx hb dX12_example_61 hl (by decide) rfl (fun ls hl => ?_)
    have hloop_91 : ∀ (n : Nat), ∀ (y_92 : Int32), (0 ≤ y_92.toInt ∧ y_92.toInt ≤ 600) → ∀ (y_93 : Int32), (0 ≤ y_93.toInt ∧ y_93.toInt ≤ 1) → ∀ (f_95 : Nat → va_E), GI (okc cI cL cZ cR cG cH L kd) kd L f_95 → ∀ (H : Heap) (locs : List Loc), va_P (dC, dI) vwCl (va_pl L f_95) H → va_S (fun q => q ∈ L) s.heap H locs → va_D (fun q => q ∈ L) (va_pl L f_95) → (∀ b, kd b ≠ 12 → kd b ≠ 575 → f_95 b = f b) → (∀ b, kd b = 12 → ∀ j, fldR (f_95 b) j = fldR (f b) j) → (∀ b, kd b = 12 → ∀ j, j ≠ 5 → fldI (f_95 b) j = fldI (f b) j) → (f_95 o0 = .inr (12, [.ref a_2, .ref a_3, .ref a_4, .int v_5, .ref a_6, .int 0, .int v_8, .int v_9, .int v_10, .int v_11, .int v_12, .int v_13, .int v_14, .int v_15, .int v_16, .ref a_17, .ref a_18, .ref a_19, .ref a_20, .ref a_21, .ref a_22, .ref a_23, .ref a_24, .int v_25, .int v_26, .int v_27, .int v_28, .int v_29, .ref a_30, .int v_31, .ref a_32, .ref a_33, .int v_34, .int v_35, .ref a_36, .int v_37, .ref a_38, .ref a_39, .int v_40, .int v_41, .ref a_42, .ref a_43, .ref a_44, .int v_45, .ref a_46, .ref a_47, .ref a_48, .ref a_49, .ref a_50, .ref a_51, .ref a_52, .ref a_53, .ref a_54, .int v_55, .int v_56, .ref a_57])) → wrel kd 575 42 11 f_95 a_2 → 600 - y_92.toInt < (n : Int) → ∀ (ls : Array Slot), lv_has ls 7 [(5, .int y_92), (4, .int y_93), (3, .int x_67), (2, .int v_7), (0, .ref o0), (1, .int p1)] → W p l e (headSpec (wU yX12_example cX12_example 7 (some .int)) { frames := 1, cells := 0, slots := 0, locals := 22 }).room s m [.ref o0, .int p1].toArray below meth c H locs 0 0 (MQ below (va_Qi (fun (r : Int32) (f9 : Nat → va_E) => GI (okc cI cL cZ cR cG cH L kd) kd L f9 ∧ ((-2147483648) ≤ r.toInt ∧ r.toInt ≤ 2147483647) ∧ (∀ b, kd b ≠ 12 → kd b ≠ 575 → f9 b = f b) ∧ (∀ b, kd b = 12 → ∀ j, fldR (f9 b) j = fldR (f b) j) ∧ (∀ b, kd b = 12 → ∀ j, j ≠ 5 → fldI (f9 b) j = fldI (f b) j) ∧ (∀ (w5 z5 : Int32), fldI (f o0) 5 = some w5 → fldI (f9 o0) 5 = some z5 → z5.toInt = 0)) (qP (dC, dI) cI cL cZ cR cG cH L) (fun q => q ∈ L)) [.ref o0, .int p1].toArray s 0 0 (fun q => q ∈ L)) (F0 m 63 ls []) := by
      intro n
      induction n with
      | zero => intro y_92 by_92 y_93 by_93 f_95 hG H locs hP hS hD hfr0 hrA12 hfA12 hfo_96 hTt_65 hmuhloop_91 ls hl; exfalso; omega
      | succ n ih_hloop_91 =>
        intro y_92 by_92 y_93 by_93 f_95 hG H locs hP hS hD hfr0 hrA12 hfA12 hfo_96 hTt_65 hmuhloop_91 ls hl
        refine lv_iload hx hb dX12_example_63 (lv_at hl 0 rfl) ?_
        refine lv_iload_n hx hb dX12_example_65 rfl (lv_at hl 3 rfl) ?_
        refine lv_icmp_ge (tgt := 180) hx hb dX12_example_66 (by decide) (fun c_97 => ?_) (fun c_97 => ?_)
        · skip
          rw [Int32.le_iff_toInt_le] at c_97
          refine lv_iload hx hb dX12_example_180 (lv_at hl 1 rfl) ?_
          refine lv_if_eq (tgt := 205) hx hb dX12_example_182 (by decide) (fun c_98 => ?_) (fun c_98 => ?_)
          · skip
            rw [← Int32.toInt_inj, ti_0] at c_98
            refine lv_iconst (v := (-1)) hx hb dX12_example_205 (by decide) ?_
            exact W.iret (v := (-1)) hx hb hr (fun t ht hW => ⟨⟨(-1), f_95, rfl, ⟨hG, (by decide), hfr0, hrA12, hfA12, (by intro w5 z5 e5 d5; rw [hfo_1] at e5; rw [hfo_96] at d5; obtain rfl := Option.some.inj e5; obtain rfl := Option.some.inj d5; (try rw [ti_0]) <;> (try rw [ti_m1]) <;> omega)⟩, by rw [ht]; exact hP, va_K.moved hW.alike hK, pl_in hD⟩, hS.F ht⟩) hS.2.2 dX12_example_206
          · skip
            rw [← Int32.toInt_inj, ti_0] at c_98
            refine lv_aload_n hx hb dX12_example_185 rfl (lv_at hl 4 rfl) ?_
            refine tk_getP (D := (dC, dI)) (ci := 12) (v := .ref a_2) (C := RX12) (T := TX12) (N := 56) hx hb hU inlX12 hown hK hP mo0 hfo_96 rfl 0 (by decide) (hU _ wd_169) (fun _ h9 => h9) rfl dX12_example_186 ?_
            refine lv_iload_n hx hb dX12_example_189 rfl (lv_at hl 2 rfl) ?_
            refine lv_iconst (v := 1) hx hb dX12_example_190 (by decide) ?_
            refine lv_iadd hx hb dX12_example_191 ?_
            refine lv_topi (fun x_99 ex_99 => ?_)
            have hx_99 : x_99.toInt = x_67.toInt + 1 := by rw [ex_99, ad_I (by rw [ti_1]; omega) (by rw [ti_1]; omega), ti_1]
            have bx_99 : (221 ≤ x_99.toInt ∧ x_99.toInt ≤ 441) := by constructor <;> omega
            obtain ⟨g_101, hfo_100, hbg_101⟩ := un_575 (hG _ ma_2) ka_2
            refine tk_ildP hx hb hK hP 0 ma_2 hfo_100 rfl (vp_in_iff.mpr (by constructor <;> omega)) dX12_example_192 ?_
            refine lv_topi (fun x_102 ex_102 => ?_)
            have bx_102 : (0 ≤ x_102.toInt ∧ x_102.toInt ≤ 8) := by have hc9 := cl_I (i := x_99) (by omega); rw [ex_102]; exact hbg_101.2.2.2.2.2.2.2.2.2.2.1 _ (by omega) (by omega) (by omega)
            refine lv_aload_n hx hb dX12_example_193 rfl (lv_at hl 4 rfl) ?_
            refine tk_getP (D := (dC, dI)) (ci := 12) (v := .ref a_2) (C := RX12) (T := TX12) (N := 56) hx hb hU inlX12 hown hK hP mo0 hfo_96 rfl 0 (by decide) (hU _ wd_169) (fun _ h9 => h9) rfl dX12_example_194 ?_
            refine lv_iload_n hx hb dX12_example_197 rfl (lv_at hl 2 rfl) ?_
            refine lv_iconst (v := 2) hx hb dX12_example_198 (by decide) ?_
            refine lv_iadd hx hb dX12_example_199 ?_
            refine lv_topi (fun x_103 ex_103 => ?_)
            have hx_103 : x_103.toInt = x_67.toInt + 2 := by rw [ex_103, ad_I (by rw [ti_2]; omega) (by rw [ti_2]; omega), ti_2]
            have bx_103 : (222 ≤ x_103.toInt ∧ x_103.toInt ≤ 442) := by constructor <;> omega
            refine tk_ildP hx hb hK hP 0 ma_2 hfo_100 rfl (vp_in_iff.mpr (by constructor <;> omega)) dX12_example_200 ?_
            refine lv_topi (fun x_104 ex_104 => ?_)
            have bx_104 : (0 ≤ x_104.toInt ∧ x_104.toInt ≤ 8) := by have hc9 := cl_I (i := x_103) (by omega); rw [ex_104]; exact hbg_101.2.2.2.2.2.2.2.2.2.2.1 _ (by omega) (by omega) (by omega)
            refine lv_iadd hx hb dX12_example_201 ?_
            refine lv_topi (fun x_105 ex_105 => ?_)
            have hx_105 : x_105.toInt = x_102.toInt + x_104.toInt := by rw [ex_105, ad_I (by omega) (by omega)]
            have bx_105 : (0 ≤ x_105.toInt ∧ x_105.toInt ≤ 16) := by constructor <;> omega
            refine lv_if_ne (tgt := 207) hx hb dX12_example_202 (by decide) (fun c_106 => ?_) (fun c_106 => ?_)
            · skip
              rw [← Int32.toInt_inj, ti_0] at c_106
              refine lv_aload_n hx hb dX12_example_207 rfl (lv_at hl 4 rfl) ?_
              refine tk_getP (D := (dC, dI)) (ci := 12) (v := .ref a_2) (C := RX12) (T := TX12) (N := 56) hx hb hU inlX12 hown hK hP mo0 hfo_96 rfl 0 (by decide) (hU _ wd_169) (fun _ h9 => h9) rfl dX12_example_208 ?_
              refine lv_iload_n hx hb dX12_example_211 rfl (lv_at hl 2 rfl) ?_
              refine lv_iload_n hx hb dX12_example_212 rfl (lv_at hl 5 rfl) ?_
              refine lv_if_eq (tgt := 220) hx hb dX12_example_213 (by decide) (fun c_107 => ?_) (fun c_107 => ?_)
              · skip
                rw [← Int32.toInt_inj, ti_0] at c_107
                refine lv_iconst (v := 0) hx hb dX12_example_220 (by decide) ?_
                refine tk_istP hx hb hK hP hD hS 0 ma_2 hfo_100 rfl (vp_in_iff.mpr (by constructor <;> omega)) dX12_example_221 (fun H locs hP hD hS => ?_)
                have hc9 := cl_I (i := x_67) (by omega)
                obtain ⟨g_108, eqg_108⟩ : ∃ y : Nat → Int32, y = upd g_101 (Int32.toNatClampNeg x_67) 0 := ⟨_, rfl⟩
                rw [← eqg_108] at hP hD
                have hbg_108 : wOK g_108 := by rw [eqg_108]; exact ⟨hbg_101.1.up (fun h1 h2 h3 => by exfalso; omega), hbg_101.2.1.up (fun h1 h2 h3 => by exfalso; omega), hbg_101.2.2.1.up (fun h1 h2 h3 => by exfalso; omega), hbg_101.2.2.2.1.up (fun h1 h2 h3 => by exfalso; omega), hbg_101.2.2.2.2.1.up (fun h1 h2 h3 => by exfalso; omega), hbg_101.2.2.2.2.2.1.up (fun h1 h2 h3 => by exfalso; omega), hbg_101.2.2.2.2.2.2.1.up (fun h1 h2 h3 => by exfalso; omega), hbg_101.2.2.2.2.2.2.2.1.up (fun h1 h2 h3 => by exfalso; omega), hbg_101.2.2.2.2.2.2.2.2.1.up (fun h1 h2 h3 => by exfalso; omega), hbg_101.2.2.2.2.2.2.2.2.2.1.up (fun h1 h2 h3 => by exfalso; omega), hbg_101.2.2.2.2.2.2.2.2.2.2.1.up (fun h1 h2 h3 => by (try rw [ti_0]); constructor <;> omega), hbg_101.2.2.2.2.2.2.2.2.2.2.2.1.up (fun h1 h2 h3 => by exfalso; omega), hbg_101.2.2.2.2.2.2.2.2.2.2.2.2.1.up (fun h1 h2 h3 => by exfalso; omega), hbg_101.2.2.2.2.2.2.2.2.2.2.2.2.2.1.up (fun h1 h2 h3 => by exfalso; omega), hbg_101.2.2.2.2.2.2.2.2.2.2.2.2.2.2.1.up (fun h1 h2 h3 => by exfalso; omega), hbg_101.2.2.2.2.2.2.2.2.2.2.2.2.2.2.2.up (fun h1 h2 h3 => by exfalso; omega)⟩
                obtain ⟨f_110, ef_110⟩ : ∃ y : Nat → va_E, y = va_up f_95 a_2 (.inl (cI, 1560, .inl g_108)) := ⟨_, rfl⟩
                have hP : va_P (dC, dI) vwCl (va_pl L f_110) H := by rw [ef_110]; exact hP
                have hD : va_D (fun q => q ∈ L) (va_pl L f_110) := by rw [ef_110]; exact hD
                have hG : GI (okc cI cL cZ cR cG cH L kd) kd L f_110 := by rw [ef_110]; exact hG.set a_2 (mk_575 ka_2 ⟨_, rfl, hbg_108⟩)
                have hfo_111 : f_110 o0 = .inr (12, [.ref a_2, .ref a_3, .ref a_4, .int v_5, .ref a_6, .int 0, .int v_8, .int v_9, .int v_10, .int v_11, .int v_12, .int v_13, .int v_14, .int v_15, .int v_16, .ref a_17, .ref a_18, .ref a_19, .ref a_20, .ref a_21, .ref a_22, .ref a_23, .ref a_24, .int v_25, .int v_26, .int v_27, .int v_28, .int v_29, .ref a_30, .int v_31, .ref a_32, .ref a_33, .int v_34, .int v_35, .ref a_36, .int v_37, .ref a_38, .ref a_39, .int v_40, .int v_41, .ref a_42, .ref a_43, .ref a_44, .int v_45, .ref a_46, .ref a_47, .ref a_48, .ref a_49, .ref a_50, .ref a_51, .ref a_52, .ref a_53, .ref a_54, .int v_55, .int v_56, .ref a_57]) := by rw [ef_110, up_ne (kd_ne ka_2 ko0 (by decide))]; exact hfo_96
                have hfr0 : ∀ b, kd b ≠ 12 → kd b ≠ 575 → f_110 b = f b := fun b q12 q575 => (congrFun ef_110 b).trans ((up_ne (fun e9 => q575 (by rw [e9]; exact ka_2))).trans (hfr0 b q12 q575))
                have hrA12 : ∀ b, kd b = 12 → ∀ j, fldR (f_110 b) j = fldR (f b) j := fun b kb j => (congrArg (fun x => fldR x j) ((congrFun ef_110 b).trans (up_ne (kd_ne ka_2 kb (by decide))))).trans (hrA12 b kb j)
                have hfA12 : ∀ b, kd b = 12 → ∀ j, j ≠ 5 → fldI (f_110 b) j = fldI (f b) j := fun b kb j n5 => (congrArg (fun x => fldI x j) ((congrFun ef_110 b).trans (up_ne (kd_ne ka_2 kb (by decide))))).trans (hfA12 b kb j n5)
                have hTt_65 : wrel kd 575 42 11 f_110 a_2 := by rw [ef_110]; exact wrel.mk ka_2 up_self (by rw [eqg_108, pk_un (by omega)]; exact hTt_65.get hfo_100)
                have hfo_112 : f_110 a_2 = .inl (cI, 1560, .inl g_108) := by rw [ef_110]; exact up_self
                have ql_113 : 0 = g_108 (Int32.toNatClampNeg x_67) := by rw [eqg_108, pk_us]
                refine lv_aload_n hx hb dX12_example_222 rfl (lv_at hl 4 rfl) ?_
                refine tk_getP (D := (dC, dI)) (ci := 12) (v := .ref a_2) (C := RX12) (T := TX12) (N := 56) hx hb hU inlX12 hown hK hP mo0 hfo_111 rfl 0 (by decide) (hU _ wd_169) (fun _ h9 => h9) rfl dX12_example_223 ?_
                refine lv_bipush (v := 42) hx hb dX12_example_226 (by decide) ?_
                refine lv_dup2_11 hx hb dX12_example_228 rfl rfl ?_
                refine tk_ildP hx hb hK hP 0 ma_2 hfo_112 rfl (vp_in_nI (n := 42) (by decide) (by decide)) dX12_example_229 ?_
                refine lv_topi (fun x_114 ex_114 => ?_)
                have bx_114 : (0 ≤ x_114.toInt ∧ x_114.toInt ≤ 12) := by rw [ex_114]; exact hbg_108.2.2.2.2.2.2.2.2.1 _ (by decide) (by decide) (by decide)
                have hnrc_115 : (0 ≤ x_114.toInt ∧ x_114.toInt ≤ 11) := by have hq1 := hTt_65.get hfo_112; have hq2 : x_114.toInt = (g_108 42).toInt := (by rw [ex_114]; rfl); constructor <;> omega
                refine lv_iconst (v := 1) hx hb dX12_example_230 (by decide) ?_
                refine lv_iadd hx hb dX12_example_231 ?_
                refine lv_topi (fun x_116 ex_116 => ?_)
                have hx_116 : x_116.toInt = x_114.toInt + 1 := by rw [ex_116, ad_I (by rw [ti_1]; omega) (by rw [ti_1]; omega), ti_1]
                have bx_116 : (1 ≤ x_116.toInt ∧ x_116.toInt ≤ 12) := by constructor <;> omega
                refine tk_istP hx hb hK hP hD hS 0 ma_2 hfo_112 rfl (vp_in_nI (n := 42) (by decide) (by decide)) dX12_example_232 (fun H locs hP hD hS => ?_)
                have hc9 : ((Int32.toNatClampNeg 42 : Nat) : Int) = 42 := by decide
                obtain ⟨g_117, eqg_117⟩ : ∃ y : Nat → Int32, y = upd g_108 (Int32.toNatClampNeg 42) x_116 := ⟨_, rfl⟩
                rw [← eqg_117] at hP hD
                have hbg_117 : wOK g_117 := by rw [eqg_117]; exact ⟨hbg_108.1.up (fun h1 h2 h3 => by exfalso; omega), hbg_108.2.1.up (fun h1 h2 h3 => by exfalso; omega), hbg_108.2.2.1.up (fun h1 h2 h3 => by exfalso; omega), hbg_108.2.2.2.1.up (fun h1 h2 h3 => by exfalso; omega), hbg_108.2.2.2.2.1.up (fun h1 h2 h3 => by exfalso; omega), hbg_108.2.2.2.2.2.1.up (fun h1 h2 h3 => by exfalso; omega), hbg_108.2.2.2.2.2.2.1.up (fun h1 h2 h3 => by exfalso; omega), hbg_108.2.2.2.2.2.2.2.1.up (fun h1 h2 h3 => by exfalso; omega), hbg_108.2.2.2.2.2.2.2.2.1.up (fun h1 h2 h3 => by constructor <;> omega), hbg_108.2.2.2.2.2.2.2.2.2.1.up (fun h1 h2 h3 => by exfalso; omega), hbg_108.2.2.2.2.2.2.2.2.2.2.1.up (fun h1 h2 h3 => by exfalso; omega), hbg_108.2.2.2.2.2.2.2.2.2.2.2.1.up (fun h1 h2 h3 => by exfalso; omega), hbg_108.2.2.2.2.2.2.2.2.2.2.2.2.1.up (fun h1 h2 h3 => by exfalso; omega), hbg_108.2.2.2.2.2.2.2.2.2.2.2.2.2.1.up (fun h1 h2 h3 => by exfalso; omega), hbg_108.2.2.2.2.2.2.2.2.2.2.2.2.2.2.1.up (fun h1 h2 h3 => by exfalso; omega), hbg_108.2.2.2.2.2.2.2.2.2.2.2.2.2.2.2.up (fun h1 h2 h3 => by exfalso; omega)⟩
                obtain ⟨f_119, ef_119⟩ : ∃ y : Nat → va_E, y = va_up f_110 a_2 (.inl (cI, 1560, .inl g_117)) := ⟨_, rfl⟩
                have hP : va_P (dC, dI) vwCl (va_pl L f_119) H := by rw [ef_119]; exact hP
                have hD : va_D (fun q => q ∈ L) (va_pl L f_119) := by rw [ef_119]; exact hD
                have hG : GI (okc cI cL cZ cR cG cH L kd) kd L f_119 := by rw [ef_119]; exact hG.set a_2 (mk_575 ka_2 ⟨_, rfl, hbg_117⟩)
                have hfo_120 : f_119 o0 = .inr (12, [.ref a_2, .ref a_3, .ref a_4, .int v_5, .ref a_6, .int 0, .int v_8, .int v_9, .int v_10, .int v_11, .int v_12, .int v_13, .int v_14, .int v_15, .int v_16, .ref a_17, .ref a_18, .ref a_19, .ref a_20, .ref a_21, .ref a_22, .ref a_23, .ref a_24, .int v_25, .int v_26, .int v_27, .int v_28, .int v_29, .ref a_30, .int v_31, .ref a_32, .ref a_33, .int v_34, .int v_35, .ref a_36, .int v_37, .ref a_38, .ref a_39, .int v_40, .int v_41, .ref a_42, .ref a_43, .ref a_44, .int v_45, .ref a_46, .ref a_47, .ref a_48, .ref a_49, .ref a_50, .ref a_51, .ref a_52, .ref a_53, .ref a_54, .int v_55, .int v_56, .ref a_57]) := by rw [ef_119, up_ne (kd_ne ka_2 ko0 (by decide))]; exact hfo_111
                have hfr0 : ∀ b, kd b ≠ 12 → kd b ≠ 575 → f_119 b = f b := fun b q12 q575 => (congrFun ef_119 b).trans ((up_ne (fun e9 => q575 (by rw [e9]; exact ka_2))).trans (hfr0 b q12 q575))
                have hrA12 : ∀ b, kd b = 12 → ∀ j, fldR (f_119 b) j = fldR (f b) j := fun b kb j => (congrArg (fun x => fldR x j) ((congrFun ef_119 b).trans (up_ne (kd_ne ka_2 kb (by decide))))).trans (hrA12 b kb j)
                have hfA12 : ∀ b, kd b = 12 → ∀ j, j ≠ 5 → fldI (f_119 b) j = fldI (f b) j := fun b kb j n5 => (congrArg (fun x => fldI x j) ((congrFun ef_119 b).trans (up_ne (kd_ne ka_2 kb (by decide))))).trans (hfA12 b kb j n5)
                have hfo_121 : f_119 a_2 = .inl (cI, 1560, .inl g_117) := by rw [ef_119]; exact up_self
                have ql_122 : x_116 = g_117 (Int32.toNatClampNeg 42) := by rw [eqg_117, pk_us]
                refine lv_aload_n hx hb dX12_example_233 rfl (lv_at hl 4 rfl) ?_
                refine tk_getP (D := (dC, dI)) (ci := 12) (v := .ref a_2) (C := RX12) (T := TX12) (N := 56) hx hb hU inlX12 hown hK hP mo0 hfo_120 rfl 0 (by decide) (hU _ wd_169) (fun _ h9 => h9) rfl dX12_example_234 ?_
                refine lv_bipush (v := 42) hx hb dX12_example_237 (by decide) ?_
                refine tk_ildP hx hb hK hP 0 ma_2 hfo_121 rfl (vp_in_nI (n := 42) (by decide) (by decide)) dX12_example_239 ?_
                refine tk_topi (y := x_116) ql_122.symm ?_
                refine lv_iconst (v := 1) hx hb dX12_example_240 (by decide) ?_
                refine lv_isub hx hb dX12_example_241 ?_
                refine lv_topi (fun x_123 ex_123 => ?_)
                have hx_123 : x_123.toInt = x_116.toInt - 1 := by rw [ex_123, sb_I (by rw [ti_1]; omega) (by rw [ti_1]; omega), ti_1]
                have bx_123 : (0 ≤ x_123.toInt ∧ x_123.toInt ≤ 11) := by constructor <;> omega
                exact W.iret (v := x_123) hx hb hr (fun t ht hW => ⟨⟨x_123, f_119, rfl, ⟨hG, (by constructor <;> omega), hfr0, hrA12, hfA12, (by intro w5 z5 e5 d5; rw [hfo_1] at e5; rw [hfo_120] at d5; obtain rfl := Option.some.inj e5; obtain rfl := Option.some.inj d5; (try rw [ti_0]) <;> omega)⟩, by rw [ht]; exact hP, va_K.moved hW.alike hK, pl_in hD⟩, hS.F ht⟩) hS.2.2 dX12_example_242
              · skip
                rw [← Int32.toInt_inj, ti_0] at c_107
                refine lv_iconst (v := 1) hx hb dX12_example_216 (by decide) ?_
                refine lv_goto (tgt := 221) hx hb dX12_example_217 (by decide) ?_
                refine tk_istP hx hb hK hP hD hS 0 ma_2 hfo_100 rfl (vp_in_iff.mpr (by constructor <;> omega)) dX12_example_221 (fun H locs hP hD hS => ?_)
                have hc9 := cl_I (i := x_67) (by omega)
                obtain ⟨g_124, eqg_124⟩ : ∃ y : Nat → Int32, y = upd g_101 (Int32.toNatClampNeg x_67) 1 := ⟨_, rfl⟩
                rw [← eqg_124] at hP hD
                have hbg_124 : wOK g_124 := by rw [eqg_124]; exact ⟨hbg_101.1.up (fun h1 h2 h3 => by exfalso; omega), hbg_101.2.1.up (fun h1 h2 h3 => by exfalso; omega), hbg_101.2.2.1.up (fun h1 h2 h3 => by exfalso; omega), hbg_101.2.2.2.1.up (fun h1 h2 h3 => by exfalso; omega), hbg_101.2.2.2.2.1.up (fun h1 h2 h3 => by exfalso; omega), hbg_101.2.2.2.2.2.1.up (fun h1 h2 h3 => by exfalso; omega), hbg_101.2.2.2.2.2.2.1.up (fun h1 h2 h3 => by exfalso; omega), hbg_101.2.2.2.2.2.2.2.1.up (fun h1 h2 h3 => by exfalso; omega), hbg_101.2.2.2.2.2.2.2.2.1.up (fun h1 h2 h3 => by exfalso; omega), hbg_101.2.2.2.2.2.2.2.2.2.1.up (fun h1 h2 h3 => by exfalso; omega), hbg_101.2.2.2.2.2.2.2.2.2.2.1.up (fun h1 h2 h3 => by (try rw [ti_1]); constructor <;> omega), hbg_101.2.2.2.2.2.2.2.2.2.2.2.1.up (fun h1 h2 h3 => by exfalso; omega), hbg_101.2.2.2.2.2.2.2.2.2.2.2.2.1.up (fun h1 h2 h3 => by exfalso; omega), hbg_101.2.2.2.2.2.2.2.2.2.2.2.2.2.1.up (fun h1 h2 h3 => by exfalso; omega), hbg_101.2.2.2.2.2.2.2.2.2.2.2.2.2.2.1.up (fun h1 h2 h3 => by exfalso; omega), hbg_101.2.2.2.2.2.2.2.2.2.2.2.2.2.2.2.up (fun h1 h2 h3 => by exfalso; omega)⟩
                obtain ⟨f_126, ef_126⟩ : ∃ y : Nat → va_E, y = va_up f_95 a_2 (.inl (cI, 1560, .inl g_124)) := ⟨_, rfl⟩
                have hP : va_P (dC, dI) vwCl (va_pl L f_126) H := by rw [ef_126]; exact hP
                have hD : va_D (fun q => q ∈ L) (va_pl L f_126) := by rw [ef_126]; exact hD
                have hG : GI (okc cI cL cZ cR cG cH L kd) kd L f_126 := by rw [ef_126]; exact hG.set a_2 (mk_575 ka_2 ⟨_, rfl, hbg_124⟩)
                have hfo_127 : f_126 o0 = .inr (12, [.ref a_2, .ref a_3, .ref a_4, .int v_5, .ref a_6, .int 0, .int v_8, .int v_9, .int v_10, .int v_11, .int v_12, .int v_13, .int v_14, .int v_15, .int v_16, .ref a_17, .ref a_18, .ref a_19, .ref a_20, .ref a_21, .ref a_22, .ref a_23, .ref a_24, .int v_25, .int v_26, .int v_27, .int v_28, .int v_29, .ref a_30, .int v_31, .ref a_32, .ref a_33, .int v_34, .int v_35, .ref a_36, .int v_37, .ref a_38, .ref a_39, .int v_40, .int v_41, .ref a_42, .ref a_43, .ref a_44, .int v_45, .ref a_46, .ref a_47, .ref a_48, .ref a_49, .ref a_50, .ref a_51, .ref a_52, .ref a_53, .ref a_54, .int v_55, .int v_56, .ref a_57]) := by rw [ef_126, up_ne (kd_ne ka_2 ko0 (by decide))]; exact hfo_96
                have hfr0 : ∀ b, kd b ≠ 12 → kd b ≠ 575 → f_126 b = f b := fun b q12 q575 => (congrFun ef_126 b).trans ((up_ne (fun e9 => q575 (by rw [e9]; exact ka_2))).trans (hfr0 b q12 q575))
                have hrA12 : ∀ b, kd b = 12 → ∀ j, fldR (f_126 b) j = fldR (f b) j := fun b kb j => (congrArg (fun x => fldR x j) ((congrFun ef_126 b).trans (up_ne (kd_ne ka_2 kb (by decide))))).trans (hrA12 b kb j)
                have hfA12 : ∀ b, kd b = 12 → ∀ j, j ≠ 5 → fldI (f_126 b) j = fldI (f b) j := fun b kb j n5 => (congrArg (fun x => fldI x j) ((congrFun ef_126 b).trans (up_ne (kd_ne ka_2 kb (by decide))))).trans (hfA12 b kb j n5)
                have hTt_65 : wrel kd 575 42 11 f_126 a_2 := by rw [ef_126]; exact wrel.mk ka_2 up_self (by rw [eqg_124, pk_un (by omega)]; exact hTt_65.get hfo_100)
                have hfo_128 : f_126 a_2 = .inl (cI, 1560, .inl g_124) := by rw [ef_126]; exact up_self
                have ql_129 : 1 = g_124 (Int32.toNatClampNeg x_67) := by rw [eqg_124, pk_us]
                refine lv_aload_n hx hb dX12_example_222 rfl (lv_at hl 4 rfl) ?_
                refine tk_getP (D := (dC, dI)) (ci := 12) (v := .ref a_2) (C := RX12) (T := TX12) (N := 56) hx hb hU inlX12 hown hK hP mo0 hfo_127 rfl 0 (by decide) (hU _ wd_169) (fun _ h9 => h9) rfl dX12_example_223 ?_
                refine lv_bipush (v := 42) hx hb dX12_example_226 (by decide) ?_
                refine lv_dup2_11 hx hb dX12_example_228 rfl rfl ?_
                refine tk_ildP hx hb hK hP 0 ma_2 hfo_128 rfl (vp_in_nI (n := 42) (by decide) (by decide)) dX12_example_229 ?_
                refine lv_topi (fun x_130 ex_130 => ?_)
                have bx_130 : (0 ≤ x_130.toInt ∧ x_130.toInt ≤ 12) := by rw [ex_130]; exact hbg_124.2.2.2.2.2.2.2.2.1 _ (by decide) (by decide) (by decide)
                have hnrc_131 : (0 ≤ x_130.toInt ∧ x_130.toInt ≤ 11) := by have hq1 := hTt_65.get hfo_128; have hq2 : x_130.toInt = (g_124 42).toInt := (by rw [ex_130]; rfl); constructor <;> omega
                refine lv_iconst (v := 1) hx hb dX12_example_230 (by decide) ?_
                refine lv_iadd hx hb dX12_example_231 ?_
                refine lv_topi (fun x_132 ex_132 => ?_)
                have hx_132 : x_132.toInt = x_130.toInt + 1 := by rw [ex_132, ad_I (by rw [ti_1]; omega) (by rw [ti_1]; omega), ti_1]
                have bx_132 : (1 ≤ x_132.toInt ∧ x_132.toInt ≤ 12) := by constructor <;> omega
                refine tk_istP hx hb hK hP hD hS 0 ma_2 hfo_128 rfl (vp_in_nI (n := 42) (by decide) (by decide)) dX12_example_232 (fun H locs hP hD hS => ?_)
                have hc9 : ((Int32.toNatClampNeg 42 : Nat) : Int) = 42 := by decide
                obtain ⟨g_133, eqg_133⟩ : ∃ y : Nat → Int32, y = upd g_124 (Int32.toNatClampNeg 42) x_132 := ⟨_, rfl⟩
                rw [← eqg_133] at hP hD
                have hbg_133 : wOK g_133 := by rw [eqg_133]; exact ⟨hbg_124.1.up (fun h1 h2 h3 => by exfalso; omega), hbg_124.2.1.up (fun h1 h2 h3 => by exfalso; omega), hbg_124.2.2.1.up (fun h1 h2 h3 => by exfalso; omega), hbg_124.2.2.2.1.up (fun h1 h2 h3 => by exfalso; omega), hbg_124.2.2.2.2.1.up (fun h1 h2 h3 => by exfalso; omega), hbg_124.2.2.2.2.2.1.up (fun h1 h2 h3 => by exfalso; omega), hbg_124.2.2.2.2.2.2.1.up (fun h1 h2 h3 => by exfalso; omega), hbg_124.2.2.2.2.2.2.2.1.up (fun h1 h2 h3 => by exfalso; omega), hbg_124.2.2.2.2.2.2.2.2.1.up (fun h1 h2 h3 => by constructor <;> omega), hbg_124.2.2.2.2.2.2.2.2.2.1.up (fun h1 h2 h3 => by exfalso; omega), hbg_124.2.2.2.2.2.2.2.2.2.2.1.up (fun h1 h2 h3 => by exfalso; omega), hbg_124.2.2.2.2.2.2.2.2.2.2.2.1.up (fun h1 h2 h3 => by exfalso; omega), hbg_124.2.2.2.2.2.2.2.2.2.2.2.2.1.up (fun h1 h2 h3 => by exfalso; omega), hbg_124.2.2.2.2.2.2.2.2.2.2.2.2.2.1.up (fun h1 h2 h3 => by exfalso; omega), hbg_124.2.2.2.2.2.2.2.2.2.2.2.2.2.2.1.up (fun h1 h2 h3 => by exfalso; omega), hbg_124.2.2.2.2.2.2.2.2.2.2.2.2.2.2.2.up (fun h1 h2 h3 => by exfalso; omega)⟩
                obtain ⟨f_135, ef_135⟩ : ∃ y : Nat → va_E, y = va_up f_126 a_2 (.inl (cI, 1560, .inl g_133)) := ⟨_, rfl⟩
                have hP : va_P (dC, dI) vwCl (va_pl L f_135) H := by rw [ef_135]; exact hP
                have hD : va_D (fun q => q ∈ L) (va_pl L f_135) := by rw [ef_135]; exact hD
                have hG : GI (okc cI cL cZ cR cG cH L kd) kd L f_135 := by rw [ef_135]; exact hG.set a_2 (mk_575 ka_2 ⟨_, rfl, hbg_133⟩)
                have hfo_136 : f_135 o0 = .inr (12, [.ref a_2, .ref a_3, .ref a_4, .int v_5, .ref a_6, .int 0, .int v_8, .int v_9, .int v_10, .int v_11, .int v_12, .int v_13, .int v_14, .int v_15, .int v_16, .ref a_17, .ref a_18, .ref a_19, .ref a_20, .ref a_21, .ref a_22, .ref a_23, .ref a_24, .int v_25, .int v_26, .int v_27, .int v_28, .int v_29, .ref a_30, .int v_31, .ref a_32, .ref a_33, .int v_34, .int v_35, .ref a_36, .int v_37, .ref a_38, .ref a_39, .int v_40, .int v_41, .ref a_42, .ref a_43, .ref a_44, .int v_45, .ref a_46, .ref a_47, .ref a_48, .ref a_49, .ref a_50, .ref a_51, .ref a_52, .ref a_53, .ref a_54, .int v_55, .int v_56, .ref a_57]) := by rw [ef_135, up_ne (kd_ne ka_2 ko0 (by decide))]; exact hfo_127
                have hfr0 : ∀ b, kd b ≠ 12 → kd b ≠ 575 → f_135 b = f b := fun b q12 q575 => (congrFun ef_135 b).trans ((up_ne (fun e9 => q575 (by rw [e9]; exact ka_2))).trans (hfr0 b q12 q575))
                have hrA12 : ∀ b, kd b = 12 → ∀ j, fldR (f_135 b) j = fldR (f b) j := fun b kb j => (congrArg (fun x => fldR x j) ((congrFun ef_135 b).trans (up_ne (kd_ne ka_2 kb (by decide))))).trans (hrA12 b kb j)
                have hfA12 : ∀ b, kd b = 12 → ∀ j, j ≠ 5 → fldI (f_135 b) j = fldI (f b) j := fun b kb j n5 => (congrArg (fun x => fldI x j) ((congrFun ef_135 b).trans (up_ne (kd_ne ka_2 kb (by decide))))).trans (hfA12 b kb j n5)
                have hfo_137 : f_135 a_2 = .inl (cI, 1560, .inl g_133) := by rw [ef_135]; exact up_self
                have ql_138 : x_132 = g_133 (Int32.toNatClampNeg 42) := by rw [eqg_133, pk_us]
                refine lv_aload_n hx hb dX12_example_233 rfl (lv_at hl 4 rfl) ?_
                refine tk_getP (D := (dC, dI)) (ci := 12) (v := .ref a_2) (C := RX12) (T := TX12) (N := 56) hx hb hU inlX12 hown hK hP mo0 hfo_136 rfl 0 (by decide) (hU _ wd_169) (fun _ h9 => h9) rfl dX12_example_234 ?_
                refine lv_bipush (v := 42) hx hb dX12_example_237 (by decide) ?_
                refine tk_ildP hx hb hK hP 0 ma_2 hfo_137 rfl (vp_in_nI (n := 42) (by decide) (by decide)) dX12_example_239 ?_
                refine tk_topi (y := x_132) ql_138.symm ?_
                refine lv_iconst (v := 1) hx hb dX12_example_240 (by decide) ?_
                refine lv_isub hx hb dX12_example_241 ?_
                refine lv_topi (fun x_139 ex_139 => ?_)
                have hx_139 : x_139.toInt = x_132.toInt - 1 := by rw [ex_139, sb_I (by rw [ti_1]; omega) (by rw [ti_1]; omega), ti_1]
                have bx_139 : (0 ≤ x_139.toInt ∧ x_139.toInt ≤ 11) := by constructor <;> omega
                exact W.iret (v := x_139) hx hb hr (fun t ht hW => ⟨⟨x_139, f_135, rfl, ⟨hG, (by constructor <;> omega), hfr0, hrA12, hfA12, (by intro w5 z5 e5 d5; rw [hfo_1] at e5; rw [hfo_136] at d5; obtain rfl := Option.some.inj e5; obtain rfl := Option.some.inj d5; (try rw [ti_0]) <;> omega)⟩, by rw [ht]; exact hP, va_K.moved hW.alike hK, pl_in hD⟩, hS.F ht⟩) hS.2.2 dX12_example_242
            · skip
              rw [← Int32.toInt_inj, ti_0] at c_106
              refine lv_iconst (v := (-1)) hx hb dX12_example_205 (by decide) ?_
              exact W.iret (v := (-1)) hx hb hr (fun t ht hW => ⟨⟨(-1), f_95, rfl, ⟨hG, (by decide), hfr0, hrA12, hfA12, (by intro w5 z5 e5 d5; rw [hfo_1] at e5; rw [hfo_96] at d5; obtain rfl := Option.some.inj e5; obtain rfl := Option.some.inj d5; (try rw [ti_0]) <;> (try rw [ti_m1]) <;> omega)⟩, by rw [ht]; exact hP, va_K.moved hW.alike hK, pl_in hD⟩, hS.F ht⟩) hS.2.2 dX12_example_206
        · skip
          rw [Int32.le_iff_toInt_le] at c_97
          refine lv_aload_n hx hb dX12_example_69 rfl (lv_at hl 4 rfl) ?_
          refine tk_getP (D := (dC, dI)) (ci := 12) (v := .ref a_2) (C := RX12) (T := TX12) (N := 56) hx hb hU inlX12 hown hK hP mo0 hfo_96 rfl 0 (by decide) (hU _ wd_169) (fun _ h9 => h9) rfl dX12_example_70 ?_
          refine lv_aload_n hx hb dX12_example_73 rfl (lv_at hl 4 rfl) ?_
          refine tk_getP (D := (dC, dI)) (ci := 12) (v := .ref a_6) (C := RX12) (T := TX12) (N := 56) hx hb hU inlX12 hown hK hP mo0 hfo_96 rfl 4 (by decide) (hU _ wd_172) (fun _ h9 => h9) rfl dX12_example_74 ?_
          refine lv_iload hx hb dX12_example_77 (lv_at hl 0 rfl) ?_
          obtain ⟨g_141, hfo_140, hbg_141⟩ := un_578 (hG _ ma_6) ka_6
          refine tk_ildP hx hb hK hP 0 ma_6 hfo_140 rfl (vp_in_iff.mpr (by constructor <;> omega)) dX12_example_79 ?_
          refine lv_topi (fun x_142 ex_142 => ?_)
          have bx_142 : (0 ≤ x_142.toInt ∧ x_142.toInt ≤ 255) := by rw [ex_142]; exact hbg_141 _
          refine tk_SiP (As := [.ref a_2, .int x_142]) (rest := []) (n := 2) hx hb hml hown hU hN hZ (s_X12_letterIn_a575 l (dC, dI) cI cL cZ cR cG cH Z kd L f_95 hG a_2 ma_2 ka_2 x_142) wd_606 wd_607 wd_5 wd_608 (by decide +kernel) ⟨Nat.le_of_ble_eq_true rfl, Nat.le_of_ble_eq_true rfl⟩ hK hP hD hS rfl hl.1 rfl (Nat.le_of_ble_eq_true rfl) dX12_example_80 ⟨Nat.le_of_ble_eq_true rfl, Nat.le_of_ble_eq_true rfl⟩ (fun x_143 f_144 H locs hw hP hD hS => ?_)
          obtain ⟨rfl, bx_143, hxp_145⟩ := hw
          obtain ⟨g_148, hfo_147, hbg_148⟩ := un_575 (hG _ ma_2) ka_2
          have hlix_143 := hxp_145 g_148 hfo_147
          refine lv_istore (lv' := [(6, .int x_143), (5, .int y_92), (4, .int y_93), (3, .int x_67), (2, .int v_7), (0, .ref o0), (1, .int p1)]) hx hb dX12_example_83 hl (by decide) rfl (fun ls hl => ?_)
          refine lv_aload_n hx hb dX12_example_85 rfl (lv_at hl 5 rfl) ?_
          refine tk_getP (D := (dC, dI)) (ci := 12) (v := .ref a_6) (C := RX12) (T := TX12) (N := 56) hx hb hU inlX12 hown hK hP mo0 hfo_96 rfl 4 (by decide) (hU _ wd_172) (fun _ h9 => h9) rfl dX12_example_86 ?_
          refine lv_iload hx hb dX12_example_89 (lv_at hl 1 rfl) ?_
          refine tk_ildP hx hb hK hP 0 ma_6 hfo_140 rfl (vp_in_iff.mpr (by constructor <;> omega)) dX12_example_91 ?_
          refine tk_topi (y := x_142) ex_142.symm ?_
          refine lv_bipush (v := 58) hx hb dX12_example_92 (by decide) ?_
          refine lv_icmp_ne (tgt := 108) hx hb dX12_example_94 (by decide) (fun c_149 => ?_) (fun c_149 => ?_)
          · skip
            rw [← Int32.toInt_inj, ti_58] at c_149
            refine lv_iload hx hb dX12_example_108 (lv_at hl 0 rfl) ?_
            refine lv_if_eq (tgt := 129) hx hb dX12_example_110 (by decide) (fun c_150 => ?_) (fun c_150 => ?_)
            · skip
              rw [← Int32.toInt_inj, ti_0] at c_150
              refine lv_iconst (v := (-1)) hx hb dX12_example_129 (by decide) ?_
              exact W.iret (v := (-1)) hx hb hr (fun t ht hW => ⟨⟨(-1), f_95, rfl, ⟨hG, (by decide), hfr0, hrA12, hfA12, (by intro w5 z5 e5 d5; rw [hfo_1] at e5; rw [hfo_96] at d5; obtain rfl := Option.some.inj e5; obtain rfl := Option.some.inj d5; (try rw [ti_0]) <;> (try rw [ti_m1]) <;> omega)⟩, by rw [ht]; exact hP, va_K.moved hW.alike hK, pl_in hD⟩, hS.F ht⟩) hS.2.2 dX12_example_130
            · skip
              rw [← Int32.toInt_inj, ti_0] at c_150
              refine lv_aload_n hx hb dX12_example_113 rfl (lv_at hl 5 rfl) ?_
              refine tk_getP (D := (dC, dI)) (ci := 12) (v := .ref a_2) (C := RX12) (T := TX12) (N := 56) hx hb hU inlX12 hown hK hP mo0 hfo_96 rfl 0 (by decide) (hU _ wd_169) (fun _ h9 => h9) rfl dX12_example_114 ?_
              refine lv_iload_n hx hb dX12_example_117 rfl (lv_at hl 3 rfl) ?_
              refine lv_iconst (v := 1) hx hb dX12_example_118 (by decide) ?_
              refine lv_iadd hx hb dX12_example_119 ?_
              refine lv_topi (fun x_151 ex_151 => ?_)
              have hx_151 : x_151.toInt = x_67.toInt + 1 := by rw [ex_151, ad_I (by rw [ti_1]; omega) (by rw [ti_1]; omega), ti_1]
              have bx_151 : (221 ≤ x_151.toInt ∧ x_151.toInt ≤ 441) := by constructor <;> omega
              refine lv_iload hx hb dX12_example_120 (lv_at hl 2 rfl) ?_
              refine lv_iadd hx hb dX12_example_122 ?_
              refine lv_topi (fun x_152 ex_152 => ?_)
              have hx_152 : x_152.toInt = x_151.toInt + y_93.toInt := by rw [ex_152, ad_I (by omega) (by omega)]
              have bx_152 : (221 ≤ x_152.toInt ∧ x_152.toInt ≤ 442) := by constructor <;> omega
              refine tk_ildP hx hb hK hP 0 ma_2 hfo_147 rfl (vp_in_iff.mpr (by constructor <;> omega)) dX12_example_123 ?_
              refine lv_topi (fun x_153 ex_153 => ?_)
              have bx_153 : (0 ≤ x_153.toInt ∧ x_153.toInt ≤ 8) := by have hc9 := cl_I (i := x_152) (by omega); rw [ex_153]; exact hbg_148.2.2.2.2.2.2.2.2.2.2.1 _ (by omega) (by omega) (by omega)
              refine lv_bipush (v := 8) hx hb dX12_example_124 (by decide) ?_
              refine lv_icmp_ne (tgt := 131) hx hb dX12_example_126 (by decide) (fun c_154 => ?_) (fun c_154 => ?_)
              · skip
                rw [← Int32.toInt_inj, ti_8] at c_154
                refine lv_aload_n hx hb dX12_example_131 rfl (lv_at hl 5 rfl) ?_
                refine tk_getP (D := (dC, dI)) (ci := 12) (v := .ref a_2) (C := RX12) (T := TX12) (N := 56) hx hb hU inlX12 hown hK hP mo0 hfo_96 rfl 0 (by decide) (hU _ wd_169) (fun _ h9 => h9) rfl dX12_example_132 ?_
                refine lv_iload_n hx hb dX12_example_135 rfl (lv_at hl 3 rfl) ?_
                refine lv_iconst (v := 3) hx hb dX12_example_136 (by decide) ?_
                refine lv_iadd hx hb dX12_example_137 ?_
                refine lv_topi (fun x_155 ex_155 => ?_)
                have hx_155 : x_155.toInt = x_67.toInt + 3 := by rw [ex_155, ad_I (by rw [ti_3]; omega) (by rw [ti_3]; omega), ti_3]
                have bx_155 : (223 ≤ x_155.toInt ∧ x_155.toInt ≤ 443) := by constructor <;> omega
                refine lv_bipush (v := 8) hx hb dX12_example_138 (by decide) ?_
                refine lv_iload hx hb dX12_example_140 (lv_at hl 2 rfl) ?_
                refine lv_imul hx hb dX12_example_142 ?_
                refine lv_topi (fun x_156 ex_156 => ?_)
                have hx_156 : x_156.toInt = 8 * y_93.toInt := by rw [ex_156, ml_I (by rw [ti_8]; omega) (by rw [ti_8]; omega), ti_8]
                have bx_156 : (0 ≤ x_156.toInt ∧ x_156.toInt ≤ 8) := by constructor <;> omega
                refine lv_iadd hx hb dX12_example_143 ?_
                refine lv_topi (fun x_157 ex_157 => ?_)
                have hx_157 : x_157.toInt = x_155.toInt + x_156.toInt := by rw [ex_157, ad_I (by omega) (by omega)]
                have bx_157 : (223 ≤ x_157.toInt ∧ x_157.toInt ≤ 451) := by constructor <;> omega
                refine lv_aload_n hx hb dX12_example_144 rfl (lv_at hl 5 rfl) ?_
                refine tk_getP (D := (dC, dI)) (ci := 12) (v := .ref a_2) (C := RX12) (T := TX12) (N := 56) hx hb hU inlX12 hown hK hP mo0 hfo_96 rfl 0 (by decide) (hU _ wd_169) (fun _ h9 => h9) rfl dX12_example_145 ?_
                refine lv_iload_n hx hb dX12_example_148 rfl (lv_at hl 3 rfl) ?_
                refine lv_iconst (v := 1) hx hb dX12_example_149 (by decide) ?_
                refine lv_iadd hx hb dX12_example_150 ?_
                refine lv_topi (fun x_158 ex_158 => ?_)
                have hx_158 : x_158.toInt = x_67.toInt + 1 := by rw [ex_158, ad_I (by rw [ti_1]; omega) (by rw [ti_1]; omega), ti_1]
                have bx_158 : (221 ≤ x_158.toInt ∧ x_158.toInt ≤ 441) := by constructor <;> omega
                refine lv_iload hx hb dX12_example_151 (lv_at hl 2 rfl) ?_
                refine lv_iadd hx hb dX12_example_153 ?_
                refine lv_topi (fun x_159 ex_159 => ?_)
                have hx_159 : x_159.toInt = x_158.toInt + y_93.toInt := by rw [ex_159, ad_I (by omega) (by omega)]
                have bx_159 : (221 ≤ x_159.toInt ∧ x_159.toInt ≤ 442) := by constructor <;> omega
                refine tk_ildP hx hb hK hP 0 ma_2 hfo_147 rfl (vp_in_iff.mpr (by constructor <;> omega)) dX12_example_154 ?_
                refine lv_topi (fun x_160 ex_160 => ?_)
                have bx_160 : (0 ≤ x_160.toInt ∧ x_160.toInt ≤ 8) := by have hc9 := cl_I (i := x_159) (by omega); rw [ex_160]; exact hbg_148.2.2.2.2.2.2.2.2.2.2.1 _ (by omega) (by omega) (by omega)
                refine lv_iadd hx hb dX12_example_155 ?_
                refine lv_topi (fun x_161 ex_161 => ?_)
                have hx_161 : x_161.toInt = x_157.toInt + x_160.toInt := by rw [ex_161, ad_I (by omega) (by omega)]
                have bx_161 : (223 ≤ x_161.toInt ∧ x_161.toInt ≤ 459) := by constructor <;> omega
                refine lv_iload hx hb dX12_example_156 (lv_at hl 0 rfl) ?_
                refine tk_istP hx hb hK hP hD hS 0 ma_2 hfo_147 rfl (vp_in_iff.mpr (by constructor <;> omega)) dX12_example_158 (fun H locs hP hD hS => ?_)
                have hc9 := cl_I (i := x_161) (by omega)
                obtain ⟨g_162, eqg_162⟩ : ∃ y : Nat → Int32, y = upd g_148 (Int32.toNatClampNeg x_161) x_143 := ⟨_, rfl⟩
                rw [← eqg_162] at hP hD
                have hbg_162 : wOK g_162 := by rw [eqg_162]; exact ⟨hbg_148.1.up (fun h1 h2 h3 => by exfalso; omega), hbg_148.2.1.up (fun h1 h2 h3 => by exfalso; omega), hbg_148.2.2.1.up (fun h1 h2 h3 => by exfalso; omega), hbg_148.2.2.2.1.up (fun h1 h2 h3 => by exfalso; omega), hbg_148.2.2.2.2.1.up (fun h1 h2 h3 => by exfalso; omega), hbg_148.2.2.2.2.2.1.up (fun h1 h2 h3 => by exfalso; omega), hbg_148.2.2.2.2.2.2.1.up (fun h1 h2 h3 => by exfalso; omega), hbg_148.2.2.2.2.2.2.2.1.up (fun h1 h2 h3 => by exfalso; omega), hbg_148.2.2.2.2.2.2.2.2.1.up (fun h1 h2 h3 => by exfalso; omega), hbg_148.2.2.2.2.2.2.2.2.2.1.up (fun h1 h2 h3 => by exfalso; omega), hbg_148.2.2.2.2.2.2.2.2.2.2.1.up (fun h1 h2 h3 => by constructor <;> omega), hbg_148.2.2.2.2.2.2.2.2.2.2.2.1.up (fun h1 h2 h3 => by exfalso; omega), hbg_148.2.2.2.2.2.2.2.2.2.2.2.2.1.up (fun h1 h2 h3 => by exfalso; omega), hbg_148.2.2.2.2.2.2.2.2.2.2.2.2.2.1.up (fun h1 h2 h3 => by exfalso; omega), hbg_148.2.2.2.2.2.2.2.2.2.2.2.2.2.2.1.up (fun h1 h2 h3 => by exfalso; omega), hbg_148.2.2.2.2.2.2.2.2.2.2.2.2.2.2.2.up (fun h1 h2 h3 => by exfalso; omega)⟩
                obtain ⟨f_164, ef_164⟩ : ∃ y : Nat → va_E, y = va_up f_95 a_2 (.inl (cI, 1560, .inl g_162)) := ⟨_, rfl⟩
                have hP : va_P (dC, dI) vwCl (va_pl L f_164) H := by rw [ef_164]; exact hP
                have hD : va_D (fun q => q ∈ L) (va_pl L f_164) := by rw [ef_164]; exact hD
                have hG : GI (okc cI cL cZ cR cG cH L kd) kd L f_164 := by rw [ef_164]; exact hG.set a_2 (mk_575 ka_2 ⟨_, rfl, hbg_162⟩)
                have hfo_165 : f_164 o0 = .inr (12, [.ref a_2, .ref a_3, .ref a_4, .int v_5, .ref a_6, .int 0, .int v_8, .int v_9, .int v_10, .int v_11, .int v_12, .int v_13, .int v_14, .int v_15, .int v_16, .ref a_17, .ref a_18, .ref a_19, .ref a_20, .ref a_21, .ref a_22, .ref a_23, .ref a_24, .int v_25, .int v_26, .int v_27, .int v_28, .int v_29, .ref a_30, .int v_31, .ref a_32, .ref a_33, .int v_34, .int v_35, .ref a_36, .int v_37, .ref a_38, .ref a_39, .int v_40, .int v_41, .ref a_42, .ref a_43, .ref a_44, .int v_45, .ref a_46, .ref a_47, .ref a_48, .ref a_49, .ref a_50, .ref a_51, .ref a_52, .ref a_53, .ref a_54, .int v_55, .int v_56, .ref a_57]) := by rw [ef_164, up_ne (kd_ne ka_2 ko0 (by decide))]; exact hfo_96
                have hfo_166 : f_164 a_6 = .inl (cI, 600, .inl g_141) := by rw [ef_164, up_ne (kd_ne ka_2 ka_6 (by decide))]; exact hfo_140
                have hfr0 : ∀ b, kd b ≠ 12 → kd b ≠ 575 → f_164 b = f b := fun b q12 q575 => (congrFun ef_164 b).trans ((up_ne (fun e9 => q575 (by rw [e9]; exact ka_2))).trans (hfr0 b q12 q575))
                have hrA12 : ∀ b, kd b = 12 → ∀ j, fldR (f_164 b) j = fldR (f b) j := fun b kb j => (congrArg (fun x => fldR x j) ((congrFun ef_164 b).trans (up_ne (kd_ne ka_2 kb (by decide))))).trans (hrA12 b kb j)
                have hfA12 : ∀ b, kd b = 12 → ∀ j, j ≠ 5 → fldI (f_164 b) j = fldI (f b) j := fun b kb j n5 => (congrArg (fun x => fldI x j) ((congrFun ef_164 b).trans (up_ne (kd_ne ka_2 kb (by decide))))).trans (hfA12 b kb j n5)
                have hTt_65 : wrel kd 575 42 11 f_164 a_2 := by rw [ef_164]; exact wrel.mk ka_2 up_self (by rw [eqg_162, pk_un (by omega)]; exact hTt_65.get hfo_147)
                have hfo_167 : f_164 a_2 = .inl (cI, 1560, .inl g_162) := by rw [ef_164]; exact up_self
                have ql_168 : x_143 = g_162 (Int32.toNatClampNeg x_161) := by rw [eqg_162, pk_us]
                refine lv_aload_n hx hb dX12_example_159 rfl (lv_at hl 5 rfl) ?_
                refine tk_getP (D := (dC, dI)) (ci := 12) (v := .ref a_2) (C := RX12) (T := TX12) (N := 56) hx hb hU inlX12 hown hK hP mo0 hfo_165 rfl 0 (by decide) (hU _ wd_169) (fun _ h9 => h9) rfl dX12_example_160 ?_
                refine lv_iload_n hx hb dX12_example_163 rfl (lv_at hl 3 rfl) ?_
                refine lv_iconst (v := 1) hx hb dX12_example_164 (by decide) ?_
                refine lv_iadd hx hb dX12_example_165 ?_
                refine lv_topi (fun x_169 ex_169 => ?_)
                have hx_169 : x_169.toInt = x_67.toInt + 1 := by rw [ex_169, ad_I (by rw [ti_1]; omega) (by rw [ti_1]; omega), ti_1]
                have bx_169 : (221 ≤ x_169.toInt ∧ x_169.toInt ≤ 441) := by constructor <;> omega
                refine lv_iload hx hb dX12_example_166 (lv_at hl 2 rfl) ?_
                refine lv_iadd hx hb dX12_example_168 ?_
                refine lv_topi (fun x_170 ex_170 => ?_)
                have hx_170 : x_170.toInt = x_169.toInt + y_93.toInt := by rw [ex_170, ad_I (by omega) (by omega)]
                have bx_170 : (221 ≤ x_170.toInt ∧ x_170.toInt ≤ 442) := by constructor <;> omega
                refine lv_dup2_11 hx hb dX12_example_169 rfl rfl ?_
                refine tk_ildP hx hb hK hP 0 ma_2 hfo_167 rfl (vp_in_iff.mpr (by constructor <;> omega)) dX12_example_170 ?_
                refine lv_topi (fun x_171 ex_171 => ?_)
                have bx_171 : (0 ≤ x_171.toInt ∧ x_171.toInt ≤ 8) := by have hc9 := cl_I (i := x_170) (by omega); rw [ex_171]; exact hbg_162.2.2.2.2.2.2.2.2.2.2.1 _ (by omega) (by omega) (by omega)
                have hnrc_172 : (0 ≤ x_171.toInt ∧ x_171.toInt ≤ 7) := by have hci := cl_I (i := x_152) (by omega); have hcj := cl_I (i := x_170) (by omega); have hc0 := cl_I (i := x_161) (by omega); have h7 : x_171 = x_153 := (by rw [ex_171, eqg_162, pk_un (by omega), ex_153]; congr 1; omega); rw [h7]; constructor <;> omega
                refine lv_iconst (v := 1) hx hb dX12_example_171 (by decide) ?_
                refine lv_iadd hx hb dX12_example_172 ?_
                refine lv_topi (fun x_173 ex_173 => ?_)
                have hx_173 : x_173.toInt = x_171.toInt + 1 := by rw [ex_173, ad_I (by rw [ti_1]; omega) (by rw [ti_1]; omega), ti_1]
                have bx_173 : (1 ≤ x_173.toInt ∧ x_173.toInt ≤ 8) := by constructor <;> omega
                refine tk_istP hx hb hK hP hD hS 0 ma_2 hfo_167 rfl (vp_in_iff.mpr (by constructor <;> omega)) dX12_example_173 (fun H locs hP hD hS => ?_)
                have hc9 := cl_I (i := x_170) (by omega)
                obtain ⟨g_174, eqg_174⟩ : ∃ y : Nat → Int32, y = upd g_162 (Int32.toNatClampNeg x_170) x_173 := ⟨_, rfl⟩
                rw [← eqg_174] at hP hD
                have hbg_174 : wOK g_174 := by rw [eqg_174]; exact ⟨hbg_162.1.up (fun h1 h2 h3 => by exfalso; omega), hbg_162.2.1.up (fun h1 h2 h3 => by exfalso; omega), hbg_162.2.2.1.up (fun h1 h2 h3 => by exfalso; omega), hbg_162.2.2.2.1.up (fun h1 h2 h3 => by exfalso; omega), hbg_162.2.2.2.2.1.up (fun h1 h2 h3 => by exfalso; omega), hbg_162.2.2.2.2.2.1.up (fun h1 h2 h3 => by exfalso; omega), hbg_162.2.2.2.2.2.2.1.up (fun h1 h2 h3 => by exfalso; omega), hbg_162.2.2.2.2.2.2.2.1.up (fun h1 h2 h3 => by exfalso; omega), hbg_162.2.2.2.2.2.2.2.2.1.up (fun h1 h2 h3 => by exfalso; omega), hbg_162.2.2.2.2.2.2.2.2.2.1.up (fun h1 h2 h3 => by exfalso; omega), hbg_162.2.2.2.2.2.2.2.2.2.2.1.up (fun h1 h2 h3 => by constructor <;> omega), hbg_162.2.2.2.2.2.2.2.2.2.2.2.1.up (fun h1 h2 h3 => by exfalso; omega), hbg_162.2.2.2.2.2.2.2.2.2.2.2.2.1.up (fun h1 h2 h3 => by exfalso; omega), hbg_162.2.2.2.2.2.2.2.2.2.2.2.2.2.1.up (fun h1 h2 h3 => by exfalso; omega), hbg_162.2.2.2.2.2.2.2.2.2.2.2.2.2.2.1.up (fun h1 h2 h3 => by exfalso; omega), hbg_162.2.2.2.2.2.2.2.2.2.2.2.2.2.2.2.up (fun h1 h2 h3 => by exfalso; omega)⟩
                obtain ⟨f_176, ef_176⟩ : ∃ y : Nat → va_E, y = va_up f_164 a_2 (.inl (cI, 1560, .inl g_174)) := ⟨_, rfl⟩
                have hP : va_P (dC, dI) vwCl (va_pl L f_176) H := by rw [ef_176]; exact hP
                have hD : va_D (fun q => q ∈ L) (va_pl L f_176) := by rw [ef_176]; exact hD
                have hG : GI (okc cI cL cZ cR cG cH L kd) kd L f_176 := by rw [ef_176]; exact hG.set a_2 (mk_575 ka_2 ⟨_, rfl, hbg_174⟩)
                have hfo_177 : f_176 o0 = .inr (12, [.ref a_2, .ref a_3, .ref a_4, .int v_5, .ref a_6, .int 0, .int v_8, .int v_9, .int v_10, .int v_11, .int v_12, .int v_13, .int v_14, .int v_15, .int v_16, .ref a_17, .ref a_18, .ref a_19, .ref a_20, .ref a_21, .ref a_22, .ref a_23, .ref a_24, .int v_25, .int v_26, .int v_27, .int v_28, .int v_29, .ref a_30, .int v_31, .ref a_32, .ref a_33, .int v_34, .int v_35, .ref a_36, .int v_37, .ref a_38, .ref a_39, .int v_40, .int v_41, .ref a_42, .ref a_43, .ref a_44, .int v_45, .ref a_46, .ref a_47, .ref a_48, .ref a_49, .ref a_50, .ref a_51, .ref a_52, .ref a_53, .ref a_54, .int v_55, .int v_56, .ref a_57]) := by rw [ef_176, up_ne (kd_ne ka_2 ko0 (by decide))]; exact hfo_165
                have hfo_178 : f_176 a_6 = .inl (cI, 600, .inl g_141) := by rw [ef_176, up_ne (kd_ne ka_2 ka_6 (by decide))]; exact hfo_166
                have hfr0 : ∀ b, kd b ≠ 12 → kd b ≠ 575 → f_176 b = f b := fun b q12 q575 => (congrFun ef_176 b).trans ((up_ne (fun e9 => q575 (by rw [e9]; exact ka_2))).trans (hfr0 b q12 q575))
                have hrA12 : ∀ b, kd b = 12 → ∀ j, fldR (f_176 b) j = fldR (f b) j := fun b kb j => (congrArg (fun x => fldR x j) ((congrFun ef_176 b).trans (up_ne (kd_ne ka_2 kb (by decide))))).trans (hrA12 b kb j)
                have hfA12 : ∀ b, kd b = 12 → ∀ j, j ≠ 5 → fldI (f_176 b) j = fldI (f b) j := fun b kb j n5 => (congrArg (fun x => fldI x j) ((congrFun ef_176 b).trans (up_ne (kd_ne ka_2 kb (by decide))))).trans (hfA12 b kb j n5)
                have hTt_65 : wrel kd 575 42 11 f_176 a_2 := by rw [ef_176]; exact wrel.mk ka_2 up_self (by rw [eqg_174, pk_un (by omega)]; exact hTt_65.get hfo_167)
                have hfo_179 : f_176 a_2 = .inl (cI, 1560, .inl g_174) := by rw [ef_176]; exact up_self
                have ql_180 : x_173 = g_174 (Int32.toNatClampNeg x_170) := by rw [eqg_174, pk_us]
                obtain ⟨x_181, ex_181⟩ : ∃ y : Int32, y_92 + 1 = y := ⟨_, rfl⟩
                have hx_181 : x_181.toInt = y_92.toInt + 1 := by rw [← ex_181, ad_I (by rw [ti_1]; omega) (by rw [ti_1]; omega), ti_1]
                have bx_181 : (1 ≤ x_181.toInt ∧ x_181.toInt ≤ 600) := by constructor <;> omega
                refine lv_iinc (v := x_181) (lv' := [(5, .int x_181), (6, .int x_143), (4, .int y_93), (3, .int x_67), (2, .int v_7), (0, .ref o0), (1, .int p1)]) hx hb dX12_example_174 hl (k := 1) rfl ex_181 (by decide) rfl (fun ls hl => ?_)
                refine lv_goto (tgt := 63) hx hb dX12_example_177 (by decide) ?_
                exact ih_hloop_91 x_181 (by constructor <;> omega) y_93 (by constructor <;> omega) f_176 hG _ _ hP hS hD hfr0 hrA12 hfA12 hfo_177 hTt_65 (by omega) ls (lv_sub hl [0, 2, 3, 4, 5, 6] rfl)
              · skip
                rw [← Int32.toInt_inj, ti_8] at c_154
                refine lv_iconst (v := (-1)) hx hb dX12_example_129 (by decide) ?_
                exact W.iret (v := (-1)) hx hb hr (fun t ht hW => ⟨⟨(-1), f_95, rfl, ⟨hG, (by decide), hfr0, hrA12, hfA12, (by intro w5 z5 e5 d5; rw [hfo_1] at e5; rw [hfo_96] at d5; obtain rfl := Option.some.inj e5; obtain rfl := Option.some.inj d5; (try rw [ti_0]) <;> (try rw [ti_m1]) <;> omega)⟩, by rw [ht]; exact hP, va_K.moved hW.alike hK, pl_in hD⟩, hS.F ht⟩) hS.2.2 dX12_example_130
          · skip
            rw [← Int32.toInt_inj, ti_58] at c_149
            refine lv_iload hx hb dX12_example_97 (lv_at hl 2 rfl) ?_
            refine lv_if_ne (tgt := 108) hx hb dX12_example_99 (by decide) (fun c_182 => ?_) (fun c_182 => ?_)
            · skip
              rw [← Int32.toInt_inj, ti_0] at c_182
              refine lv_iload hx hb dX12_example_108 (lv_at hl 0 rfl) ?_
              refine lv_if_eq (tgt := 129) hx hb dX12_example_110 (by decide) (fun c_183 => ?_) (fun c_183 => ?_)
              · skip
                rw [← Int32.toInt_inj, ti_0] at c_183
                refine lv_iconst (v := (-1)) hx hb dX12_example_129 (by decide) ?_
                exact W.iret (v := (-1)) hx hb hr (fun t ht hW => ⟨⟨(-1), f_95, rfl, ⟨hG, (by decide), hfr0, hrA12, hfA12, (by intro w5 z5 e5 d5; rw [hfo_1] at e5; rw [hfo_96] at d5; obtain rfl := Option.some.inj e5; obtain rfl := Option.some.inj d5; (try rw [ti_0]) <;> (try rw [ti_m1]) <;> omega)⟩, by rw [ht]; exact hP, va_K.moved hW.alike hK, pl_in hD⟩, hS.F ht⟩) hS.2.2 dX12_example_130
              · skip
                rw [← Int32.toInt_inj, ti_0] at c_183
                refine lv_aload_n hx hb dX12_example_113 rfl (lv_at hl 5 rfl) ?_
                refine tk_getP (D := (dC, dI)) (ci := 12) (v := .ref a_2) (C := RX12) (T := TX12) (N := 56) hx hb hU inlX12 hown hK hP mo0 hfo_96 rfl 0 (by decide) (hU _ wd_169) (fun _ h9 => h9) rfl dX12_example_114 ?_
                refine lv_iload_n hx hb dX12_example_117 rfl (lv_at hl 3 rfl) ?_
                refine lv_iconst (v := 1) hx hb dX12_example_118 (by decide) ?_
                refine lv_iadd hx hb dX12_example_119 ?_
                refine lv_topi (fun x_184 ex_184 => ?_)
                have hx_184 : x_184.toInt = x_67.toInt + 1 := by rw [ex_184, ad_I (by rw [ti_1]; omega) (by rw [ti_1]; omega), ti_1]
                have bx_184 : (221 ≤ x_184.toInt ∧ x_184.toInt ≤ 441) := by constructor <;> omega
                refine lv_iload hx hb dX12_example_120 (lv_at hl 2 rfl) ?_
                refine lv_iadd hx hb dX12_example_122 ?_
                refine lv_topi (fun x_185 ex_185 => ?_)
                have hx_185 : x_185.toInt = x_184.toInt + y_93.toInt := by rw [ex_185, ad_I (by omega) (by omega)]
                have bx_185 : (222 ≤ x_185.toInt ∧ x_185.toInt ≤ 442) := by constructor <;> omega
                refine tk_ildP hx hb hK hP 0 ma_2 hfo_147 rfl (vp_in_iff.mpr (by constructor <;> omega)) dX12_example_123 ?_
                refine lv_topi (fun x_186 ex_186 => ?_)
                have bx_186 : (0 ≤ x_186.toInt ∧ x_186.toInt ≤ 8) := by have hc9 := cl_I (i := x_185) (by omega); rw [ex_186]; exact hbg_148.2.2.2.2.2.2.2.2.2.2.1 _ (by omega) (by omega) (by omega)
                refine lv_bipush (v := 8) hx hb dX12_example_124 (by decide) ?_
                refine lv_icmp_ne (tgt := 131) hx hb dX12_example_126 (by decide) (fun c_187 => ?_) (fun c_187 => ?_)
                · skip
                  rw [← Int32.toInt_inj, ti_8] at c_187
                  refine lv_aload_n hx hb dX12_example_131 rfl (lv_at hl 5 rfl) ?_
                  refine tk_getP (D := (dC, dI)) (ci := 12) (v := .ref a_2) (C := RX12) (T := TX12) (N := 56) hx hb hU inlX12 hown hK hP mo0 hfo_96 rfl 0 (by decide) (hU _ wd_169) (fun _ h9 => h9) rfl dX12_example_132 ?_
                  refine lv_iload_n hx hb dX12_example_135 rfl (lv_at hl 3 rfl) ?_
                  refine lv_iconst (v := 3) hx hb dX12_example_136 (by decide) ?_
                  refine lv_iadd hx hb dX12_example_137 ?_
                  refine lv_topi (fun x_188 ex_188 => ?_)
                  have hx_188 : x_188.toInt = x_67.toInt + 3 := by rw [ex_188, ad_I (by rw [ti_3]; omega) (by rw [ti_3]; omega), ti_3]
                  have bx_188 : (223 ≤ x_188.toInt ∧ x_188.toInt ≤ 443) := by constructor <;> omega
                  refine lv_bipush (v := 8) hx hb dX12_example_138 (by decide) ?_
                  refine lv_iload hx hb dX12_example_140 (lv_at hl 2 rfl) ?_
                  refine lv_imul hx hb dX12_example_142 ?_
                  refine lv_topi (fun x_189 ex_189 => ?_)
                  have hx_189 : x_189.toInt = 8 * y_93.toInt := by rw [ex_189, ml_I (by rw [ti_8]; omega) (by rw [ti_8]; omega), ti_8]
                  have bx_189 : (8 ≤ x_189.toInt ∧ x_189.toInt ≤ 8) := by constructor <;> omega
                  refine lv_iadd hx hb dX12_example_143 ?_
                  refine lv_topi (fun x_190 ex_190 => ?_)
                  have hx_190 : x_190.toInt = x_188.toInt + x_189.toInt := by rw [ex_190, ad_I (by omega) (by omega)]
                  have bx_190 : (231 ≤ x_190.toInt ∧ x_190.toInt ≤ 451) := by constructor <;> omega
                  refine lv_aload_n hx hb dX12_example_144 rfl (lv_at hl 5 rfl) ?_
                  refine tk_getP (D := (dC, dI)) (ci := 12) (v := .ref a_2) (C := RX12) (T := TX12) (N := 56) hx hb hU inlX12 hown hK hP mo0 hfo_96 rfl 0 (by decide) (hU _ wd_169) (fun _ h9 => h9) rfl dX12_example_145 ?_
                  refine lv_iload_n hx hb dX12_example_148 rfl (lv_at hl 3 rfl) ?_
                  refine lv_iconst (v := 1) hx hb dX12_example_149 (by decide) ?_
                  refine lv_iadd hx hb dX12_example_150 ?_
                  refine lv_topi (fun x_191 ex_191 => ?_)
                  have hx_191 : x_191.toInt = x_67.toInt + 1 := by rw [ex_191, ad_I (by rw [ti_1]; omega) (by rw [ti_1]; omega), ti_1]
                  have bx_191 : (221 ≤ x_191.toInt ∧ x_191.toInt ≤ 441) := by constructor <;> omega
                  refine lv_iload hx hb dX12_example_151 (lv_at hl 2 rfl) ?_
                  refine lv_iadd hx hb dX12_example_153 ?_
                  refine lv_topi (fun x_192 ex_192 => ?_)
                  have hx_192 : x_192.toInt = x_191.toInt + y_93.toInt := by rw [ex_192, ad_I (by omega) (by omega)]
                  have bx_192 : (222 ≤ x_192.toInt ∧ x_192.toInt ≤ 442) := by constructor <;> omega
                  refine tk_ildP hx hb hK hP 0 ma_2 hfo_147 rfl (vp_in_iff.mpr (by constructor <;> omega)) dX12_example_154 ?_
                  refine lv_topi (fun x_193 ex_193 => ?_)
                  have bx_193 : (0 ≤ x_193.toInt ∧ x_193.toInt ≤ 8) := by have hc9 := cl_I (i := x_192) (by omega); rw [ex_193]; exact hbg_148.2.2.2.2.2.2.2.2.2.2.1 _ (by omega) (by omega) (by omega)
                  refine lv_iadd hx hb dX12_example_155 ?_
                  refine lv_topi (fun x_194 ex_194 => ?_)
                  have hx_194 : x_194.toInt = x_190.toInt + x_193.toInt := by rw [ex_194, ad_I (by omega) (by omega)]
                  have bx_194 : (231 ≤ x_194.toInt ∧ x_194.toInt ≤ 459) := by constructor <;> omega
                  refine lv_iload hx hb dX12_example_156 (lv_at hl 0 rfl) ?_
                  refine tk_istP hx hb hK hP hD hS 0 ma_2 hfo_147 rfl (vp_in_iff.mpr (by constructor <;> omega)) dX12_example_158 (fun H locs hP hD hS => ?_)
                  have hc9 := cl_I (i := x_194) (by omega)
                  obtain ⟨g_195, eqg_195⟩ : ∃ y : Nat → Int32, y = upd g_148 (Int32.toNatClampNeg x_194) x_143 := ⟨_, rfl⟩
                  rw [← eqg_195] at hP hD
                  have hbg_195 : wOK g_195 := by rw [eqg_195]; exact ⟨hbg_148.1.up (fun h1 h2 h3 => by exfalso; omega), hbg_148.2.1.up (fun h1 h2 h3 => by exfalso; omega), hbg_148.2.2.1.up (fun h1 h2 h3 => by exfalso; omega), hbg_148.2.2.2.1.up (fun h1 h2 h3 => by exfalso; omega), hbg_148.2.2.2.2.1.up (fun h1 h2 h3 => by exfalso; omega), hbg_148.2.2.2.2.2.1.up (fun h1 h2 h3 => by exfalso; omega), hbg_148.2.2.2.2.2.2.1.up (fun h1 h2 h3 => by exfalso; omega), hbg_148.2.2.2.2.2.2.2.1.up (fun h1 h2 h3 => by exfalso; omega), hbg_148.2.2.2.2.2.2.2.2.1.up (fun h1 h2 h3 => by exfalso; omega), hbg_148.2.2.2.2.2.2.2.2.2.1.up (fun h1 h2 h3 => by exfalso; omega), hbg_148.2.2.2.2.2.2.2.2.2.2.1.up (fun h1 h2 h3 => by constructor <;> omega), hbg_148.2.2.2.2.2.2.2.2.2.2.2.1.up (fun h1 h2 h3 => by exfalso; omega), hbg_148.2.2.2.2.2.2.2.2.2.2.2.2.1.up (fun h1 h2 h3 => by exfalso; omega), hbg_148.2.2.2.2.2.2.2.2.2.2.2.2.2.1.up (fun h1 h2 h3 => by exfalso; omega), hbg_148.2.2.2.2.2.2.2.2.2.2.2.2.2.2.1.up (fun h1 h2 h3 => by exfalso; omega), hbg_148.2.2.2.2.2.2.2.2.2.2.2.2.2.2.2.up (fun h1 h2 h3 => by exfalso; omega)⟩
                  obtain ⟨f_197, ef_197⟩ : ∃ y : Nat → va_E, y = va_up f_95 a_2 (.inl (cI, 1560, .inl g_195)) := ⟨_, rfl⟩
                  have hP : va_P (dC, dI) vwCl (va_pl L f_197) H := by rw [ef_197]; exact hP
                  have hD : va_D (fun q => q ∈ L) (va_pl L f_197) := by rw [ef_197]; exact hD
                  have hG : GI (okc cI cL cZ cR cG cH L kd) kd L f_197 := by rw [ef_197]; exact hG.set a_2 (mk_575 ka_2 ⟨_, rfl, hbg_195⟩)
                  have hfo_198 : f_197 o0 = .inr (12, [.ref a_2, .ref a_3, .ref a_4, .int v_5, .ref a_6, .int 0, .int v_8, .int v_9, .int v_10, .int v_11, .int v_12, .int v_13, .int v_14, .int v_15, .int v_16, .ref a_17, .ref a_18, .ref a_19, .ref a_20, .ref a_21, .ref a_22, .ref a_23, .ref a_24, .int v_25, .int v_26, .int v_27, .int v_28, .int v_29, .ref a_30, .int v_31, .ref a_32, .ref a_33, .int v_34, .int v_35, .ref a_36, .int v_37, .ref a_38, .ref a_39, .int v_40, .int v_41, .ref a_42, .ref a_43, .ref a_44, .int v_45, .ref a_46, .ref a_47, .ref a_48, .ref a_49, .ref a_50, .ref a_51, .ref a_52, .ref a_53, .ref a_54, .int v_55, .int v_56, .ref a_57]) := by rw [ef_197, up_ne (kd_ne ka_2 ko0 (by decide))]; exact hfo_96
                  have hfo_199 : f_197 a_6 = .inl (cI, 600, .inl g_141) := by rw [ef_197, up_ne (kd_ne ka_2 ka_6 (by decide))]; exact hfo_140
                  have hfr0 : ∀ b, kd b ≠ 12 → kd b ≠ 575 → f_197 b = f b := fun b q12 q575 => (congrFun ef_197 b).trans ((up_ne (fun e9 => q575 (by rw [e9]; exact ka_2))).trans (hfr0 b q12 q575))
                  have hrA12 : ∀ b, kd b = 12 → ∀ j, fldR (f_197 b) j = fldR (f b) j := fun b kb j => (congrArg (fun x => fldR x j) ((congrFun ef_197 b).trans (up_ne (kd_ne ka_2 kb (by decide))))).trans (hrA12 b kb j)
                  have hfA12 : ∀ b, kd b = 12 → ∀ j, j ≠ 5 → fldI (f_197 b) j = fldI (f b) j := fun b kb j n5 => (congrArg (fun x => fldI x j) ((congrFun ef_197 b).trans (up_ne (kd_ne ka_2 kb (by decide))))).trans (hfA12 b kb j n5)
                  have hTt_65 : wrel kd 575 42 11 f_197 a_2 := by rw [ef_197]; exact wrel.mk ka_2 up_self (by rw [eqg_195, pk_un (by omega)]; exact hTt_65.get hfo_147)
                  have hfo_200 : f_197 a_2 = .inl (cI, 1560, .inl g_195) := by rw [ef_197]; exact up_self
                  have ql_201 : x_143 = g_195 (Int32.toNatClampNeg x_194) := by rw [eqg_195, pk_us]
                  refine lv_aload_n hx hb dX12_example_159 rfl (lv_at hl 5 rfl) ?_
                  refine tk_getP (D := (dC, dI)) (ci := 12) (v := .ref a_2) (C := RX12) (T := TX12) (N := 56) hx hb hU inlX12 hown hK hP mo0 hfo_198 rfl 0 (by decide) (hU _ wd_169) (fun _ h9 => h9) rfl dX12_example_160 ?_
                  refine lv_iload_n hx hb dX12_example_163 rfl (lv_at hl 3 rfl) ?_
                  refine lv_iconst (v := 1) hx hb dX12_example_164 (by decide) ?_
                  refine lv_iadd hx hb dX12_example_165 ?_
                  refine lv_topi (fun x_202 ex_202 => ?_)
                  have hx_202 : x_202.toInt = x_67.toInt + 1 := by rw [ex_202, ad_I (by rw [ti_1]; omega) (by rw [ti_1]; omega), ti_1]
                  have bx_202 : (221 ≤ x_202.toInt ∧ x_202.toInt ≤ 441) := by constructor <;> omega
                  refine lv_iload hx hb dX12_example_166 (lv_at hl 2 rfl) ?_
                  refine lv_iadd hx hb dX12_example_168 ?_
                  refine lv_topi (fun x_203 ex_203 => ?_)
                  have hx_203 : x_203.toInt = x_202.toInt + y_93.toInt := by rw [ex_203, ad_I (by omega) (by omega)]
                  have bx_203 : (222 ≤ x_203.toInt ∧ x_203.toInt ≤ 442) := by constructor <;> omega
                  refine lv_dup2_11 hx hb dX12_example_169 rfl rfl ?_
                  refine tk_ildP hx hb hK hP 0 ma_2 hfo_200 rfl (vp_in_iff.mpr (by constructor <;> omega)) dX12_example_170 ?_
                  refine lv_topi (fun x_204 ex_204 => ?_)
                  have bx_204 : (0 ≤ x_204.toInt ∧ x_204.toInt ≤ 8) := by have hc9 := cl_I (i := x_203) (by omega); rw [ex_204]; exact hbg_195.2.2.2.2.2.2.2.2.2.2.1 _ (by omega) (by omega) (by omega)
                  have hnrc_205 : (0 ≤ x_204.toInt ∧ x_204.toInt ≤ 7) := by have hci := cl_I (i := x_185) (by omega); have hcj := cl_I (i := x_203) (by omega); have hc0 := cl_I (i := x_194) (by omega); have h7 : x_204 = x_186 := (by rw [ex_204, eqg_195, pk_un (by omega), ex_186]; congr 1; omega); rw [h7]; constructor <;> omega
                  refine lv_iconst (v := 1) hx hb dX12_example_171 (by decide) ?_
                  refine lv_iadd hx hb dX12_example_172 ?_
                  refine lv_topi (fun x_206 ex_206 => ?_)
                  have hx_206 : x_206.toInt = x_204.toInt + 1 := by rw [ex_206, ad_I (by rw [ti_1]; omega) (by rw [ti_1]; omega), ti_1]
                  have bx_206 : (1 ≤ x_206.toInt ∧ x_206.toInt ≤ 8) := by constructor <;> omega
                  refine tk_istP hx hb hK hP hD hS 0 ma_2 hfo_200 rfl (vp_in_iff.mpr (by constructor <;> omega)) dX12_example_173 (fun H locs hP hD hS => ?_)
                  have hc9 := cl_I (i := x_203) (by omega)
                  obtain ⟨g_207, eqg_207⟩ : ∃ y : Nat → Int32, y = upd g_195 (Int32.toNatClampNeg x_203) x_206 := ⟨_, rfl⟩
                  rw [← eqg_207] at hP hD
                  have hbg_207 : wOK g_207 := by rw [eqg_207]; exact ⟨hbg_195.1.up (fun h1 h2 h3 => by exfalso; omega), hbg_195.2.1.up (fun h1 h2 h3 => by exfalso; omega), hbg_195.2.2.1.up (fun h1 h2 h3 => by exfalso; omega), hbg_195.2.2.2.1.up (fun h1 h2 h3 => by exfalso; omega), hbg_195.2.2.2.2.1.up (fun h1 h2 h3 => by exfalso; omega), hbg_195.2.2.2.2.2.1.up (fun h1 h2 h3 => by exfalso; omega), hbg_195.2.2.2.2.2.2.1.up (fun h1 h2 h3 => by exfalso; omega), hbg_195.2.2.2.2.2.2.2.1.up (fun h1 h2 h3 => by exfalso; omega), hbg_195.2.2.2.2.2.2.2.2.1.up (fun h1 h2 h3 => by exfalso; omega), hbg_195.2.2.2.2.2.2.2.2.2.1.up (fun h1 h2 h3 => by exfalso; omega), hbg_195.2.2.2.2.2.2.2.2.2.2.1.up (fun h1 h2 h3 => by constructor <;> omega), hbg_195.2.2.2.2.2.2.2.2.2.2.2.1.up (fun h1 h2 h3 => by exfalso; omega), hbg_195.2.2.2.2.2.2.2.2.2.2.2.2.1.up (fun h1 h2 h3 => by exfalso; omega), hbg_195.2.2.2.2.2.2.2.2.2.2.2.2.2.1.up (fun h1 h2 h3 => by exfalso; omega), hbg_195.2.2.2.2.2.2.2.2.2.2.2.2.2.2.1.up (fun h1 h2 h3 => by exfalso; omega), hbg_195.2.2.2.2.2.2.2.2.2.2.2.2.2.2.2.up (fun h1 h2 h3 => by exfalso; omega)⟩
                  obtain ⟨f_209, ef_209⟩ : ∃ y : Nat → va_E, y = va_up f_197 a_2 (.inl (cI, 1560, .inl g_207)) := ⟨_, rfl⟩
                  have hP : va_P (dC, dI) vwCl (va_pl L f_209) H := by rw [ef_209]; exact hP
                  have hD : va_D (fun q => q ∈ L) (va_pl L f_209) := by rw [ef_209]; exact hD
                  have hG : GI (okc cI cL cZ cR cG cH L kd) kd L f_209 := by rw [ef_209]; exact hG.set a_2 (mk_575 ka_2 ⟨_, rfl, hbg_207⟩)
                  have hfo_210 : f_209 o0 = .inr (12, [.ref a_2, .ref a_3, .ref a_4, .int v_5, .ref a_6, .int 0, .int v_8, .int v_9, .int v_10, .int v_11, .int v_12, .int v_13, .int v_14, .int v_15, .int v_16, .ref a_17, .ref a_18, .ref a_19, .ref a_20, .ref a_21, .ref a_22, .ref a_23, .ref a_24, .int v_25, .int v_26, .int v_27, .int v_28, .int v_29, .ref a_30, .int v_31, .ref a_32, .ref a_33, .int v_34, .int v_35, .ref a_36, .int v_37, .ref a_38, .ref a_39, .int v_40, .int v_41, .ref a_42, .ref a_43, .ref a_44, .int v_45, .ref a_46, .ref a_47, .ref a_48, .ref a_49, .ref a_50, .ref a_51, .ref a_52, .ref a_53, .ref a_54, .int v_55, .int v_56, .ref a_57]) := by rw [ef_209, up_ne (kd_ne ka_2 ko0 (by decide))]; exact hfo_198
                  have hfo_211 : f_209 a_6 = .inl (cI, 600, .inl g_141) := by rw [ef_209, up_ne (kd_ne ka_2 ka_6 (by decide))]; exact hfo_199
                  have hfr0 : ∀ b, kd b ≠ 12 → kd b ≠ 575 → f_209 b = f b := fun b q12 q575 => (congrFun ef_209 b).trans ((up_ne (fun e9 => q575 (by rw [e9]; exact ka_2))).trans (hfr0 b q12 q575))
                  have hrA12 : ∀ b, kd b = 12 → ∀ j, fldR (f_209 b) j = fldR (f b) j := fun b kb j => (congrArg (fun x => fldR x j) ((congrFun ef_209 b).trans (up_ne (kd_ne ka_2 kb (by decide))))).trans (hrA12 b kb j)
                  have hfA12 : ∀ b, kd b = 12 → ∀ j, j ≠ 5 → fldI (f_209 b) j = fldI (f b) j := fun b kb j n5 => (congrArg (fun x => fldI x j) ((congrFun ef_209 b).trans (up_ne (kd_ne ka_2 kb (by decide))))).trans (hfA12 b kb j n5)
                  have hTt_65 : wrel kd 575 42 11 f_209 a_2 := by rw [ef_209]; exact wrel.mk ka_2 up_self (by rw [eqg_207, pk_un (by omega)]; exact hTt_65.get hfo_200)
                  have hfo_212 : f_209 a_2 = .inl (cI, 1560, .inl g_207) := by rw [ef_209]; exact up_self
                  have ql_213 : x_206 = g_207 (Int32.toNatClampNeg x_203) := by rw [eqg_207, pk_us]
                  obtain ⟨x_214, ex_214⟩ : ∃ y : Int32, y_92 + 1 = y := ⟨_, rfl⟩
                  have hx_214 : x_214.toInt = y_92.toInt + 1 := by rw [← ex_214, ad_I (by rw [ti_1]; omega) (by rw [ti_1]; omega), ti_1]
                  have bx_214 : (1 ≤ x_214.toInt ∧ x_214.toInt ≤ 600) := by constructor <;> omega
                  refine lv_iinc (v := x_214) (lv' := [(5, .int x_214), (6, .int x_143), (4, .int y_93), (3, .int x_67), (2, .int v_7), (0, .ref o0), (1, .int p1)]) hx hb dX12_example_174 hl (k := 1) rfl ex_214 (by decide) rfl (fun ls hl => ?_)
                  refine lv_goto (tgt := 63) hx hb dX12_example_177 (by decide) ?_
                  exact ih_hloop_91 x_214 (by constructor <;> omega) y_93 (by constructor <;> omega) f_209 hG _ _ hP hS hD hfr0 hrA12 hfA12 hfo_210 hTt_65 (by omega) ls (lv_sub hl [0, 2, 3, 4, 5, 6] rfl)
                · skip
                  rw [← Int32.toInt_inj, ti_8] at c_187
                  refine lv_iconst (v := (-1)) hx hb dX12_example_129 (by decide) ?_
                  exact W.iret (v := (-1)) hx hb hr (fun t ht hW => ⟨⟨(-1), f_95, rfl, ⟨hG, (by decide), hfr0, hrA12, hfA12, (by intro w5 z5 e5 d5; rw [hfo_1] at e5; rw [hfo_96] at d5; obtain rfl := Option.some.inj e5; obtain rfl := Option.some.inj d5; (try rw [ti_0]) <;> (try rw [ti_m1]) <;> omega)⟩, by rw [ht]; exact hP, va_K.moved hW.alike hK, pl_in hD⟩, hS.F ht⟩) hS.2.2 dX12_example_130
            · skip
              rw [← Int32.toInt_inj, ti_0] at c_182
              refine lv_iconst (v := 1) hx hb dX12_example_102 (by decide) ?_
              refine lv_istore (lv' := [(4, .int 1), (6, .int x_143), (5, .int y_92), (3, .int x_67), (2, .int v_7), (0, .ref o0), (1, .int p1)]) hx hb dX12_example_103 hl (by decide) rfl (fun ls hl => ?_)
              refine lv_goto (tgt := 174) hx hb dX12_example_105 (by decide) ?_
              obtain ⟨x_215, ex_215⟩ : ∃ y : Int32, y_92 + 1 = y := ⟨_, rfl⟩
              have hx_215 : x_215.toInt = y_92.toInt + 1 := by rw [← ex_215, ad_I (by rw [ti_1]; omega) (by rw [ti_1]; omega), ti_1]
              have bx_215 : (1 ≤ x_215.toInt ∧ x_215.toInt ≤ 600) := by constructor <;> omega
              refine lv_iinc (v := x_215) (lv' := [(5, .int x_215), (4, .int 1), (6, .int x_143), (3, .int x_67), (2, .int v_7), (0, .ref o0), (1, .int p1)]) hx hb dX12_example_174 hl (k := 2) rfl ex_215 (by decide) rfl (fun ls hl => ?_)
              refine lv_goto (tgt := 63) hx hb dX12_example_177 (by decide) ?_
              exact ih_hloop_91 x_215 (by constructor <;> omega) 1 (by decide) f_95 hG _ _ hP hS hD hfr0 hrA12 hfA12 hfo_96 hTt_65 (by (try rw [ti_1]) <;> omega) ls (lv_sub hl [0, 1, 3, 4, 5, 6] rfl)
    exact hloop_91 601 0 (by decide) 0 (by decide) f_79 hG _ _ hP hS hD hfr0 hrA12 hfA12 hfo_80 hTt_65 (by (try rw [ti_0]) <;> omega) ls hl
  · skip
    rw [← Int32.toInt_inj, ti_12] at c_64
    refine lv_iconst (v := (-1)) hx hb dX12_example_22 (by decide) ?_
    exact W.iret (v := (-1)) hx hb hr (fun t ht hW => ⟨⟨(-1), f_59, rfl, ⟨hG, (by decide), hfr0, hrA12, hfA12, (by intro w5 z5 e5 d5; rw [hfo_1] at e5; rw [hfo_60] at d5; obtain rfl := Option.some.inj e5; obtain rfl := Option.some.inj d5; (try rw [ti_0]) <;> (try rw [ti_m1]) <;> omega)⟩, by rw [ht]; exact hP, va_K.moved hW.alike hK, pl_in hD⟩, hS.F ht⟩) hS.2.2 dX12_example_23
