set_option maxHeartbeats 8000000 in
set_option maxRecDepth 100000 in
theorem s_X12_marks_k12 (l : Launch) (D : va_G) (cI cL cZ cR cG cH : ClassId) (Z : zT) (kd : Nat → Nat) (L : List Nat) (f : Nat → va_E) (hG : GI (okc cI cL cZ cR cG cH L kd) kd L f) (o0 : Nat) (mo0 : o0 ∈ L) (ko0 : kd o0 = 12) (p1 : Int32) (bp1 : (0 ≤ p1.toInt ∧ p1.toInt ≤ 4)) (hxtr0 : srel kd 592 f o0) : mPV l D cI cL cZ cR cG cH Z yX12_marks cX12_marks 3 none 1 23 [.ref o0, .int p1] L f (fun (f9 : Nat → va_E) => GI (okc cI cL cZ cR cG cH L kd) kd L f9 ∧ (∀ b, kd b ≠ 12 → kd b ≠ 592 → kd b ≠ 593 → f9 b = f b) ∧ (∀ b, kd b = 12 → ∀ j, fldR (f9 b) j = fldR (f b) j) ∧ (∀ b, kd b = 12 → ∀ j, j ≠ 32 → fldI (f9 b) j = fldI (f b) j) ∧ (srel kd 592 f9 o0)) := by
  obtain ⟨dC, dI⟩ := D
  refine Met.ofW (cc := cX12_marks) (maxL := 3) (ret := none) (by decide) rfl ?_
  intro p e s m args below meth c s₁ B hml hv
  obtain ⟨rfl, hP, hK, hD0, hN, hZ⟩ := hv
  have hx := B.exec
  have hb := B.bytes
  have hr := B.returns
  have hU : ∀ w ∈ wsU, w.before _ s = true := fun w h => atoms_spec (ws := wU yX12_marks cX12_marks 3 none) B.pre w (List.mem_cons_of_mem _ h)
  have hown : s.vm.findClass RX12 = some m.cls := findClass_of_methodNamed B.named
  have hlocks := B.notSynchronized
  have hD := pl_in hD0
  have hS : va_S (fun q => q ∈ L) s.heap s.heap [] := va_S.rf
  have hl := lv_entry ([.ref o0, .int p1]) (n := 3) (Nat.le_of_ble_eq_true rfl)
  rw [lg_entry_eq]
  generalize (lg_sl ([.ref o0, .int p1]) ++ List.replicate (3 - (lg_sl ([.ref o0, .int p1])).length) Slot.unset).toArray = ls at hl ⊢
  have hl : lv_has ls 3 [(0, .ref o0), (1, .int p1)] := hl
  have hfr0 : ∀ b, kd b ≠ 12 → kd b ≠ 592 → kd b ≠ 593 → f b = f b := fun _ _ _ _ => rfl
  have hrA12 : ∀ b, kd b = 12 → ∀ j, fldR (f b) j = fldR (f b) j := fun _ _ _ => rfl
  have hfA12 : ∀ b, kd b = 12 → ∀ j, j ≠ 32 → fldI (f b) j = fldI (f b) j := fun _ _ _ _ => rfl
  have hT0 := hxtr0
  obtain ⟨a_1, a_2, a_3, v_4, a_5, v_6, v_7, v_8, v_9, v_10, v_11, v_12, v_13, v_14, v_15, a_16, a_17, a_18, a_19, a_20, a_21, a_22, a_23, v_24, v_25, v_26, v_27, v_28, a_29, v_30, a_31, a_32, v_33, v_34, a_35, v_36, a_37, a_38, v_39, v_40, a_41, a_42, a_43, v_44, a_45, a_46, a_47, a_48, a_49, a_50, a_51, a_52, a_53, v_54, v_55, a_56, hfo_57, fa_58⟩ := un12 (hG _ mo0) ko0
  obtain ⟨ma_31, ka_31⟩ := fa12_30 fa_58
  obtain ⟨ma_32, ka_32⟩ := fa12_31 fa_58
  have bv_33 : (0 ≤ v_33.toInt ∧ v_33.toInt ≤ 6561) := fa12_32 fa_58
  have bv_34 : ((-2147483648) ≤ v_34.toInt ∧ v_34.toInt ≤ 2147483647) := ⟨i32_lo _, i32_hi _⟩
  obtain ⟨g_60, hfo_59, hbg_60⟩ := un_592 (hG _ ma_31) ka_31
  have hqs := hT0
  obtain ⟨sa, sg, sc, sd, ⟨-, -⟩, s1, s2, ⟨s3, s4⟩, s5⟩ := hqs
  rw [hfo_57] at s1 s3 s4
  obtain rfl := Option.some.inj s1
  obtain rfl := Option.some.inj s3
  obtain rfl := Option.some.inj s4
  rw [hfo_59] at s2
  obtain rfl := Option.some.inj s2
  refine lv_aload_n hx hb dX12_marks_0 rfl (lv_at hl 0 rfl) ?_
  refine lv_iload_n hx hb dX12_marks_1 rfl (lv_at hl 1 rfl) ?_
  refine tk_ViP (As := [.int p1]) (rest := []) (n := 1) hx hb hml hown hU hN hZ (s_X12_numberOf_k12 l (dC, dI) cI cL cZ cR cG cH Z kd L f hG o0 mo0 ko0 p1 (by constructor <;> omega)) wd_922 wd_923 wd_924 wd_5 wd_925 (by decide +kernel) ⟨Nat.le_of_ble_eq_true rfl, Nat.le_of_ble_eq_true rfl⟩ hK hP hD hS mo0 hfo_57 12 rfl rfl rfl hl.1 rfl (Nat.le_of_ble_eq_true rfl) dX12_marks_2 ⟨Nat.le_of_ble_eq_true rfl, Nat.le_of_ble_eq_true rfl⟩ (fun x_61 f_62 H locs hw hP hD hS => ?_)
  obtain ⟨rfl, bx_61⟩ := hw
  refine lv_istore_n (lv' := [(2, .int x_61), (0, .ref o0), (1, .int p1)]) hx hb dX12_marks_5 rfl hl (by decide) rfl (fun ls hl => ?_)
  refine lv_aload_n hx hb dX12_marks_6 rfl (lv_at hl 1 rfl) ?_
  refine tk_getP (D := (dC, dI)) (ci := 12) (v := .ref a_31) (C := RX12) (T := TX12) (N := 56) hx hb hU inlX12 hown hK hP mo0 hfo_57 rfl 30 (by decide) (hU _ wd_184) (fun _ h9 => h9) rfl dX12_marks_7 ?_
  refine lv_iload_n hx hb dX12_marks_10 rfl (lv_at hl 0 rfl) ?_
  refine tk_ildP hx hb hK hP 0 ma_31 hfo_59 rfl (vp_in_iff.mpr (by constructor <;> omega)) dX12_marks_11 ?_
  refine lv_topi (fun x_64 ex_64 => ?_)
  have bx_64 : ((-2147483648) ≤ x_64.toInt ∧ x_64.toInt ≤ 2147483647) := ⟨i32_lo _, i32_hi _⟩
  refine lv_aload_n hx hb dX12_marks_12 rfl (lv_at hl 1 rfl) ?_
  refine tk_getP (D := (dC, dI)) (ci := 12) (v := .int v_34) (C := RX12) (T := TX12) (N := 56) hx hb hU inlX12 hown hK hP mo0 hfo_57 rfl 33 (by decide) (hU _ wd_920) (fun _ h9 => h9) rfl dX12_marks_13 ?_
  refine lv_icmp_ne (tgt := 20) hx hb dX12_marks_16 (by decide) (fun c_65 => ?_) (fun c_65 => ?_)
  · skip
    rw [← Int32.toInt_inj] at c_65
    have hne : g_60 (Int32.toNatClampNeg x_61) ≠ v_34 := fun q => by rw [← ex_64] at q; have q2 : x_64.toInt = v_34.toInt := (by rw [q]); omega
    have hin : Int32.toNatClampNeg x_61 < 6561 := by have hc9 := cl_I (i := x_61) (by omega); omega
    have hlt := ctE_lt hin hne
    have hclc_66 : (0 ≤ v_33.toInt ∧ v_33.toInt ≤ 6560) := by constructor <;> omega
    refine lv_aload_n hx hb dX12_marks_20 rfl (lv_at hl 1 rfl) ?_
    refine tk_getP (D := (dC, dI)) (ci := 12) (v := .ref a_31) (C := RX12) (T := TX12) (N := 56) hx hb hU inlX12 hown hK hP mo0 hfo_57 rfl 30 (by decide) (hU _ wd_184) (fun _ h9 => h9) rfl dX12_marks_21 ?_
    refine lv_iload_n hx hb dX12_marks_24 rfl (lv_at hl 0 rfl) ?_
    refine lv_aload_n hx hb dX12_marks_25 rfl (lv_at hl 1 rfl) ?_
    refine tk_getP (D := (dC, dI)) (ci := 12) (v := .int v_34) (C := RX12) (T := TX12) (N := 56) hx hb hU inlX12 hown hK hP mo0 hfo_57 rfl 33 (by decide) (hU _ wd_920) (fun _ h9 => h9) rfl dX12_marks_26 ?_
    refine tk_istP hx hb hK hP hD hS 0 ma_31 hfo_59 rfl (vp_in_iff.mpr (by constructor <;> omega)) dX12_marks_29 (fun H locs hP hD hS => ?_)
    obtain ⟨g_67, eqg_67⟩ : ∃ y : Nat → Int32, y = upd g_60 (Int32.toNatClampNeg x_61) v_34 := ⟨_, rfl⟩
    rw [← eqg_67] at hP hD
    have hbg_67 : ∀ j, (-2147483648) ≤ (g_67 j).toInt ∧ (g_67 j).toInt ≤ 2147483647 := by rw [eqg_67]; exact okI_up hbg_60 ⟨i32_lo _, i32_hi _⟩ _
    obtain ⟨f_69, ef_69⟩ : ∃ y : Nat → va_E, y = va_up f a_31 (.inl (cI, 6561, .inl g_67)) := ⟨_, rfl⟩
    have hP : va_P (dC, dI) vwCl (va_pl L f_69) H := by rw [ef_69]; exact hP
    have hD : va_D (fun q => q ∈ L) (va_pl L f_69) := by rw [ef_69]; exact hD
    have hG : GI (okc cI cL cZ cR cG cH L kd) kd L f_69 := by rw [ef_69]; exact hG.set a_31 (mk_592 ka_31 ⟨_, rfl, hbg_67⟩)
    have hfo_70 : f_69 o0 = .inr (12, [.ref a_1, .ref a_2, .ref a_3, .int v_4, .ref a_5, .int v_6, .int v_7, .int v_8, .int v_9, .int v_10, .int v_11, .int v_12, .int v_13, .int v_14, .int v_15, .ref a_16, .ref a_17, .ref a_18, .ref a_19, .ref a_20, .ref a_21, .ref a_22, .ref a_23, .int v_24, .int v_25, .int v_26, .int v_27, .int v_28, .ref a_29, .int v_30, .ref a_31, .ref a_32, .int v_33, .int v_34, .ref a_35, .int v_36, .ref a_37, .ref a_38, .int v_39, .int v_40, .ref a_41, .ref a_42, .ref a_43, .int v_44, .ref a_45, .ref a_46, .ref a_47, .ref a_48, .ref a_49, .ref a_50, .ref a_51, .ref a_52, .ref a_53, .int v_54, .int v_55, .ref a_56]) := by rw [ef_69, up_ne (kd_ne ka_31 ko0 (by decide))]; exact hfo_57
    have hfr0 : ∀ b, kd b ≠ 12 → kd b ≠ 592 → kd b ≠ 593 → f_69 b = f b := fun b q12 q592 q593 => (congrFun ef_69 b).trans ((up_ne (fun e9 => q592 (by rw [e9]; exact ka_31))).trans (hfr0 b q12 q592 q593))
    have hrA12 : ∀ b, kd b = 12 → ∀ j, fldR (f_69 b) j = fldR (f b) j := fun b kb j => (congrArg (fun x => fldR x j) ((congrFun ef_69 b).trans (up_ne (kd_ne ka_31 kb (by decide))))).trans (hrA12 b kb j)
    have hfA12 : ∀ b, kd b = 12 → ∀ j, j ≠ 32 → fldI (f_69 b) j = fldI (f b) j := fun b kb j n32 => (congrArg (fun x => fldI x j) ((congrFun ef_69 b).trans (up_ne (kd_ne ka_31 kb (by decide))))).trans (hfA12 b kb j n32)
    have hfo_71 : f_69 a_31 = .inl (cI, 6561, .inl g_67) := by rw [ef_69]; exact up_self
    refine lv_aload_n hx hb dX12_marks_30 rfl (lv_at hl 1 rfl) ?_
    refine tk_getP (D := (dC, dI)) (ci := 12) (v := .ref a_32) (C := RX12) (T := TX12) (N := 56) hx hb hU inlX12 hown hK hP mo0 hfo_70 rfl 31 (by decide) (hU _ wd_185) (fun _ h9 => h9) rfl dX12_marks_31 ?_
    refine lv_aload_n hx hb dX12_marks_34 rfl (lv_at hl 1 rfl) ?_
    refine tk_getP (D := (dC, dI)) (ci := 12) (v := .int v_33) (C := RX12) (T := TX12) (N := 56) hx hb hU inlX12 hown hK hP mo0 hfo_70 rfl 32 (by decide) (hU _ wd_921) (fun _ h9 => h9) rfl dX12_marks_35 ?_
    refine lv_iload_n hx hb dX12_marks_38 rfl (lv_at hl 0 rfl) ?_
    obtain ⟨g_73, hfo_72, hbg_73⟩ := un_593 (hG _ ma_32) ka_32
    refine tk_istP hx hb hK hP hD hS 0 ma_32 hfo_72 rfl (vp_in_iff.mpr (by constructor <;> omega)) dX12_marks_39 (fun H locs hP hD hS => ?_)
    obtain ⟨g_74, eqg_74⟩ : ∃ y : Nat → Int32, y = upd g_73 (Int32.toNatClampNeg v_33) x_61 := ⟨_, rfl⟩
    rw [← eqg_74] at hP hD
    have hbg_74 : ∀ j, 0 ≤ (g_74 j).toInt ∧ (g_74 j).toInt ≤ 6560 := by rw [eqg_74]; exact okI_up hbg_73 (by constructor <;> omega) _
    obtain ⟨f_76, ef_76⟩ : ∃ y : Nat → va_E, y = va_up f_69 a_32 (.inl (cI, 6561, .inl g_74)) := ⟨_, rfl⟩
    have hP : va_P (dC, dI) vwCl (va_pl L f_76) H := by rw [ef_76]; exact hP
    have hD : va_D (fun q => q ∈ L) (va_pl L f_76) := by rw [ef_76]; exact hD
    have hG : GI (okc cI cL cZ cR cG cH L kd) kd L f_76 := by rw [ef_76]; exact hG.set a_32 (mk_593 ka_32 ⟨_, rfl, hbg_74⟩)
    have hfo_77 : f_76 o0 = .inr (12, [.ref a_1, .ref a_2, .ref a_3, .int v_4, .ref a_5, .int v_6, .int v_7, .int v_8, .int v_9, .int v_10, .int v_11, .int v_12, .int v_13, .int v_14, .int v_15, .ref a_16, .ref a_17, .ref a_18, .ref a_19, .ref a_20, .ref a_21, .ref a_22, .ref a_23, .int v_24, .int v_25, .int v_26, .int v_27, .int v_28, .ref a_29, .int v_30, .ref a_31, .ref a_32, .int v_33, .int v_34, .ref a_35, .int v_36, .ref a_37, .ref a_38, .int v_39, .int v_40, .ref a_41, .ref a_42, .ref a_43, .int v_44, .ref a_45, .ref a_46, .ref a_47, .ref a_48, .ref a_49, .ref a_50, .ref a_51, .ref a_52, .ref a_53, .int v_54, .int v_55, .ref a_56]) := by rw [ef_76, up_ne (kd_ne ka_32 ko0 (by decide))]; exact hfo_70
    have hfo_78 : f_76 a_31 = .inl (cI, 6561, .inl g_67) := by rw [ef_76, up_ne (kd_ne ka_32 ka_31 (by decide))]; exact hfo_71
    have hfr0 : ∀ b, kd b ≠ 12 → kd b ≠ 592 → kd b ≠ 593 → f_76 b = f b := fun b q12 q592 q593 => (congrFun ef_76 b).trans ((up_ne (fun e9 => q593 (by rw [e9]; exact ka_32))).trans (hfr0 b q12 q592 q593))
    have hrA12 : ∀ b, kd b = 12 → ∀ j, fldR (f_76 b) j = fldR (f b) j := fun b kb j => (congrArg (fun x => fldR x j) ((congrFun ef_76 b).trans (up_ne (kd_ne ka_32 kb (by decide))))).trans (hrA12 b kb j)
    have hfA12 : ∀ b, kd b = 12 → ∀ j, j ≠ 32 → fldI (f_76 b) j = fldI (f b) j := fun b kb j n32 => (congrArg (fun x => fldI x j) ((congrFun ef_76 b).trans (up_ne (kd_ne ka_32 kb (by decide))))).trans (hfA12 b kb j n32)
    have hfo_79 : f_76 a_32 = .inl (cI, 6561, .inl g_74) := by rw [ef_76]; exact up_self
    refine lv_aload_n hx hb dX12_marks_40 rfl (lv_at hl 1 rfl) ?_
    refine lv_dup hx hb dX12_marks_41 rfl ?_
    refine tk_getP (D := (dC, dI)) (ci := 12) (v := .int v_33) (C := RX12) (T := TX12) (N := 56) hx hb hU inlX12 hown hK hP mo0 hfo_77 rfl 32 (by decide) (hU _ wd_921) (fun _ h9 => h9) rfl dX12_marks_42 ?_
    refine lv_iconst (v := 1) hx hb dX12_marks_45 (by decide) ?_
    refine lv_iadd hx hb dX12_marks_46 ?_
    refine lv_topi (fun x_80 ex_80 => ?_)
    have hx_80 : x_80.toInt = v_33.toInt + 1 := by rw [ex_80, ad_I (by rw [ti_1]; omega) (by rw [ti_1]; omega), ti_1]
    have bx_80 : (1 ≤ x_80.toInt ∧ x_80.toInt ≤ 6561) := by constructor <;> omega
    refine tk_putP (D := (dC, dI)) (ci := 12) (v := .int x_80) (ty := .int) (C := RX12) (T := TX12) (N := 56) hx hb hU inlX12 tyX12 tyX12_ok nmX12 hown hK hP hD hS mo0 hfo_77 rfl 32 (by decide) (hU _ wd_921) (fun _ h9 => h9) rfl (by decide +kernel) rfl rfl (Nat.le_of_ble_eq_true rfl) dX12_marks_47 (fun H locs hP hD hS => ?_)
    have fa_81 := fu12_32 (y := x_80) fa_58 (by constructor <;> omega)
    obtain ⟨f_83, ef_83⟩ : ∃ y : Nat → va_E, y = va_up f_76 o0 (.inr (12, [.ref a_1, .ref a_2, .ref a_3, .int v_4, .ref a_5, .int v_6, .int v_7, .int v_8, .int v_9, .int v_10, .int v_11, .int v_12, .int v_13, .int v_14, .int v_15, .ref a_16, .ref a_17, .ref a_18, .ref a_19, .ref a_20, .ref a_21, .ref a_22, .ref a_23, .int v_24, .int v_25, .int v_26, .int v_27, .int v_28, .ref a_29, .int v_30, .ref a_31, .ref a_32, .int x_80, .int v_34, .ref a_35, .int v_36, .ref a_37, .ref a_38, .int v_39, .int v_40, .ref a_41, .ref a_42, .ref a_43, .int v_44, .ref a_45, .ref a_46, .ref a_47, .ref a_48, .ref a_49, .ref a_50, .ref a_51, .ref a_52, .ref a_53, .int v_54, .int v_55, .ref a_56])) := ⟨_, rfl⟩
    have hP : va_P (dC, dI) vwCl (va_pl L f_83) H := by rw [ef_83]; exact hP
    have hD : va_D (fun q => q ∈ L) (va_pl L f_83) := by rw [ef_83]; exact hD
    have hG : GI (okc cI cL cZ cR cG cH L kd) kd L f_83 := by rw [ef_83]; exact hG.set o0 (mk_12 ko0 (fo12 fa_81))
    have hfo_84 : f_83 a_31 = .inl (cI, 6561, .inl g_67) := by rw [ef_83, up_ne (kd_ne ko0 ka_31 (by decide))]; exact hfo_78
    have hfo_85 : f_83 a_32 = .inl (cI, 6561, .inl g_74) := by rw [ef_83, up_ne (kd_ne ko0 ka_32 (by decide))]; exact hfo_79
    have hfr0 : ∀ b, kd b ≠ 12 → kd b ≠ 592 → kd b ≠ 593 → f_83 b = f b := fun b q12 q592 q593 => (congrFun ef_83 b).trans ((up_ne (fun e9 => q12 (by rw [e9]; exact ko0))).trans (hfr0 b q12 q592 q593))
    have hrA12 : ∀ b, kd b = 12 → ∀ j, fldR (f_83 b) j = fldR (f b) j := fun b kb j => ((congrArg (fun x => fldR x j) (congrFun ef_83 b)).trans (fra_up (fun j => by rw [hfo_77]; exact fr_set (k := 32) rfl rfl) j b)).trans (hrA12 b kb j)
    have hfA12 : ∀ b, kd b = 12 → ∀ j, j ≠ 32 → fldI (f_83 b) j = fldI (f b) j := fun b kb j n32 => ((congrArg (fun x => fldI x j) (congrFun ef_83 b)).trans (fia_up (fun h9 => by rw [hfo_77]; exact fi_set (k := 32) rfl h9) n32 b)).trans (hfA12 b kb j n32)
    have hfo_86 : f_83 o0 = .inr (12, [.ref a_1, .ref a_2, .ref a_3, .int v_4, .ref a_5, .int v_6, .int v_7, .int v_8, .int v_9, .int v_10, .int v_11, .int v_12, .int v_13, .int v_14, .int v_15, .ref a_16, .ref a_17, .ref a_18, .ref a_19, .ref a_20, .ref a_21, .ref a_22, .ref a_23, .int v_24, .int v_25, .int v_26, .int v_27, .int v_28, .ref a_29, .int v_30, .ref a_31, .ref a_32, .int x_80, .int v_34, .ref a_35, .int v_36, .ref a_37, .ref a_38, .int v_39, .int v_40, .ref a_41, .ref a_42, .ref a_43, .int v_44, .ref a_45, .ref a_46, .ref a_47, .ref a_48, .ref a_49, .ref a_50, .ref a_51, .ref a_52, .ref a_53, .int v_54, .int v_55, .ref a_56]) := by rw [ef_83]; exact up_self
    exact W.vret hx hb hr (fun t ht hW => ⟨⟨f_83, rfl, ⟨hG, hfr0, hrA12, hfA12, ⟨a_31, g_67, x_80, v_34, ⟨ko0, ka_31⟩, (by rw [hfo_86]; rfl), (by rw [hfo_84]; rfl), (by rw [hfo_86]; exact ⟨rfl, rfl⟩), (by rw [eqg_67, ctE_up hin hne]; omega)⟩⟩, by rw [ht]; exact hP, va_K.moved hW.alike hK, pl_in hD⟩, hS.F ht⟩) hS.2.2 dX12_marks_50
  · skip
    rw [← Int32.toInt_inj] at c_65
    exact W.vret hx hb hr (fun t ht hW => ⟨⟨f, rfl, ⟨hG, hfr0, hrA12, hfA12, hT0⟩, by rw [ht]; exact hP, va_K.moved hW.alike hK, pl_in hD⟩, hS.F ht⟩) hS.2.2 dX12_marks_19
set_option maxHeartbeats 8000000 in
set_option maxRecDepth 100000 in
theorem s_X12_breaks_k12 (l : Launch) (D : va_G) (cI cL cZ cR cG cH : ClassId) (Z : zT) (kd : Nat → Nat) (L : List Nat) (f : Nat → va_E) (hG : GI (okc cI cL cZ cR cG cH L kd) kd L f) (o0 : Nat) (mo0 : o0 ∈ L) (ko0 : kd o0 = 12) (p1 : Int32) (bp1 : (0 ≤ p1.toInt ∧ p1.toInt ≤ 13)) (p2 : Int32) (bp2 : (0 ≤ p2.toInt ∧ p2.toInt ≤ 4)) : mPV l D cI cL cZ cR cG cH Z yX12_breaks cX12_breaks 6 none 6 157 [.ref o0, .int p1, .int p2] L f (fun (f9 : Nat → va_E) => GI (okc cI cL cZ cR cG cH L kd) kd L f9 ∧ (∀ b, kd b ≠ 603 → f9 b = f b)) := by
  obtain ⟨dC, dI⟩ := D
  refine Met.ofW (cc := cX12_breaks) (maxL := 6) (ret := none) (by decide) rfl ?_
  intro p e s m args below meth c s₁ B hml hv
  obtain ⟨rfl, hP, hK, hD0, hN, hZ⟩ := hv
  have hx := B.exec
  have hb := B.bytes
  have hr := B.returns
  have hU : ∀ w ∈ wsU, w.before _ s = true := fun w h => atoms_spec (ws := wU yX12_breaks cX12_breaks 6 none) B.pre w (List.mem_cons_of_mem _ h)
  have hown : s.vm.findClass RX12 = some m.cls := findClass_of_methodNamed B.named
  have hlocks := B.notSynchronized
  have hD := pl_in hD0
  have hS : va_S (fun q => q ∈ L) s.heap s.heap [] := va_S.rf
  have hl := lv_entry ([.ref o0, .int p1, .int p2]) (n := 6) (Nat.le_of_ble_eq_true rfl)
  rw [lg_entry_eq]
  generalize (lg_sl ([.ref o0, .int p1, .int p2]) ++ List.replicate (6 - (lg_sl ([.ref o0, .int p1, .int p2])).length) Slot.unset).toArray = ls at hl ⊢
  have hl : lv_has ls 6 [(0, .ref o0), (1, .int p1), (2, .int p2)] := hl
  have hfr0 : ∀ b, kd b ≠ 603 → f b = f b := fun _ _ => rfl
  refine lv_aload_n hx hb dX12_breaks_0 rfl (lv_at hl 0 rfl) ?_
  obtain ⟨a_1, a_2, a_3, v_4, a_5, v_6, v_7, v_8, v_9, v_10, v_11, v_12, v_13, v_14, v_15, a_16, a_17, a_18, a_19, a_20, a_21, a_22, a_23, v_24, v_25, v_26, v_27, v_28, a_29, v_30, a_31, a_32, v_33, v_34, a_35, v_36, a_37, a_38, v_39, v_40, a_41, a_42, a_43, v_44, a_45, a_46, a_47, a_48, a_49, a_50, a_51, a_52, a_53, v_54, v_55, a_56, hfo_57, fa_58⟩ := un12 (hG _ mo0) ko0
  obtain ⟨ma_1, ka_1⟩ := fa12_0 fa_58
  obtain ⟨ma_21, ka_21⟩ := fa12_20 fa_58
  obtain ⟨ma_31, ka_31⟩ := fa12_30 fa_58
  have bv_34 : ((-2147483648) ≤ v_34.toInt ∧ v_34.toInt ≤ 2147483647) := ⟨i32_lo _, i32_hi _⟩
  obtain ⟨ma_48, ka_48⟩ := fa12_47 fa_58
  refine tk_getP (D := (dC, dI)) (ci := 12) (v := .ref a_31) (C := RX12) (T := TX12) (N := 56) hx hb hU inlX12 hown hK hP mo0 hfo_57 rfl 30 (by decide) (hU _ wd_184) (fun _ h9 => h9) rfl dX12_breaks_1 ?_
  refine lv_aload_n hx hb dX12_breaks_4 rfl (lv_at hl 0 rfl) ?_
  refine lv_iload_n hx hb dX12_breaks_5 rfl (lv_at hl 2 rfl) ?_
  refine tk_ViP (As := [.int p2]) (rest := [.ref a_31]) (n := 1) hx hb hml hown hU hN hZ (s_X12_numberOf_k12 l (dC, dI) cI cL cZ cR cG cH Z kd L f hG o0 mo0 ko0 p2 (by constructor <;> omega)) wd_922 wd_923 wd_924 wd_5 wd_925 (by decide +kernel) ⟨Nat.le_of_ble_eq_true rfl, Nat.le_of_ble_eq_true rfl⟩ hK hP hD hS mo0 hfo_57 12 rfl rfl rfl hl.1 rfl (Nat.le_of_ble_eq_true rfl) dX12_breaks_6 ⟨Nat.le_of_ble_eq_true rfl, Nat.le_of_ble_eq_true rfl⟩ (fun x_59 f_60 H locs hw hP hD hS => ?_)
  obtain ⟨rfl, bx_59⟩ := hw
  obtain ⟨g_63, hfo_62, hbg_63⟩ := un_592 (hG _ ma_31) ka_31
  refine tk_ildP hx hb hK hP 0 ma_31 hfo_62 rfl (vp_in_iff.mpr (by constructor <;> omega)) dX12_breaks_9 ?_
  refine lv_topi (fun x_64 ex_64 => ?_)
  have bx_64 : ((-2147483648) ≤ x_64.toInt ∧ x_64.toInt ≤ 2147483647) := ⟨i32_lo _, i32_hi _⟩
  refine lv_aload_n hx hb dX12_breaks_10 rfl (lv_at hl 0 rfl) ?_
  refine tk_getP (D := (dC, dI)) (ci := 12) (v := .int v_34) (C := RX12) (T := TX12) (N := 56) hx hb hU inlX12 hown hK hP mo0 hfo_57 rfl 33 (by decide) (hU _ wd_920) (fun _ h9 => h9) rfl dX12_breaks_11 ?_
  refine lv_icmp_ne (tgt := 18) hx hb dX12_breaks_14 (by decide) (fun c_65 => ?_) (fun c_65 => ?_)
  · skip
    rw [← Int32.toInt_inj] at c_65
    refine lv_iconst (v := 0) hx hb dX12_breaks_18 (by decide) ?_
    refine lv_istore_n (lv' := [(3, .int 0), (0, .ref o0), (1, .int p1), (2, .int p2)]) hx hb dX12_breaks_19 rfl hl (by decide) rfl (fun ls hl => ?_)
    refine lv_iconst (v := 0) hx hb dX12_breaks_20 (by decide) ?_
    refine lv_istore (lv' := [(4, .int 0), (3, .int 0), (0, .ref o0), (1, .int p1), (2, .int p2)]) hx hb dX12_breaks_21 hl (by decide) rfl (fun ls hl => ?_)
    have hloop_87 : ∀ (n : Nat), ∀ (y_88 : Int32), (0 ≤ y_88.toInt ∧ y_88.toInt ≤ 8) → ∀ (y_89 : Int32), ((-2147483648) ≤ y_89.toInt ∧ y_89.toInt ≤ 2147483647) → ∀ (H : Heap) (locs : List Loc), va_P (dC, dI) vwCl (va_pl L f) H → va_S (fun q => q ∈ L) s.heap H locs → 8 - y_88.toInt < (n : Int) → ∀ (ls : Array Slot), lv_has ls 6 [(4, .int y_88), (3, .int y_89), (0, .ref o0), (1, .int p1), (2, .int p2)] → W p l e (headSpec (wU yX12_breaks cX12_breaks 6 none) { frames := 6, cells := 0, slots := 0, locals := 157 }).room s m [.ref o0, .int p1, .int p2].toArray below meth c H locs 0 0 (MQ below (va_Qv (fun (f9 : Nat → va_E) => GI (okc cI cL cZ cR cG cH L kd) kd L f9 ∧ (∀ b, kd b ≠ 603 → f9 b = f b)) (qP (dC, dI) cI cL cZ cR cG cH L) (fun q => q ∈ L)) [.ref o0, .int p1, .int p2].toArray s 0 0 (fun q => q ∈ L)) (F0 m 23 ls []) := by
      intro n
      induction n with
      | zero => intro y_88 by_88 y_89 by_89 H locs hP hS hmuhloop_87 ls hl; exfalso; omega
      | succ n ih_hloop_87 =>
        intro y_88 by_88 y_89 by_89 H locs hP hS hmuhloop_87 ls hl
        refine lv_iload hx hb dX12_breaks_23 (lv_at hl 0 rfl) ?_
        refine lv_aload_n hx hb dX12_breaks_25 rfl (lv_at hl 2 rfl) ?_
        refine tk_getP (D := (dC, dI)) (ci := 12) (v := .ref a_1) (C := RX12) (T := TX12) (N := 56) hx hb hU inlX12 hown hK hP mo0 hfo_57 rfl 0 (by decide) (hU _ wd_169) (fun _ h9 => h9) rfl dX12_breaks_26 ?_
        refine lv_bipush (v := 17) hx hb dX12_breaks_29 (by decide) ?_
        obtain ⟨g_92, hfo_91, hbg_92⟩ := un_575 (hG _ ma_1) ka_1
        refine tk_ildP hx hb hK hP 0 ma_1 hfo_91 rfl (vp_in_nI (n := 17) (by decide) (by decide)) dX12_breaks_31 ?_
        refine lv_topi (fun x_93 ex_93 => ?_)
        have bx_93 : (0 ≤ x_93.toInt ∧ x_93.toInt ≤ 8) := by rw [ex_93]; exact hbg_92.2.2.1 _ (by decide) (by decide) (by decide)
        refine lv_icmp_ge (tgt := 104) hx hb dX12_breaks_32 (by decide) (fun c_94 => ?_) (fun c_94 => ?_)
        · skip
          rw [Int32.le_iff_toInt_le] at c_94
          refine lv_iconst (v := 0) hx hb dX12_breaks_104 (by decide) ?_
          refine lv_istore (lv' := [(4, .int 0), (3, .int y_89), (0, .ref o0), (1, .int p1), (2, .int p2)]) hx hb dX12_breaks_105 hl (by decide) rfl (fun ls hl => ?_)
          have hloop_116 : ∀ (n : Nat), ∀ (y_117 : Int32), (0 ≤ y_117.toInt ∧ y_117.toInt ≤ 256) → ∀ (f_119 : Nat → va_E), GI (okc cI cL cZ cR cG cH L kd) kd L f_119 → ∀ (H : Heap) (locs : List Loc), va_P (dC, dI) vwCl (va_pl L f_119) H → va_S (fun q => q ∈ L) s.heap H locs → va_D (fun q => q ∈ L) (va_pl L f_119) → (∀ b, kd b ≠ 603 → f_119 b = f b) → (f_119 o0 = .inr (12, [.ref a_1, .ref a_2, .ref a_3, .int v_4, .ref a_5, .int v_6, .int v_7, .int v_8, .int v_9, .int v_10, .int v_11, .int v_12, .int v_13, .int v_14, .int v_15, .ref a_16, .ref a_17, .ref a_18, .ref a_19, .ref a_20, .ref a_21, .ref a_22, .ref a_23, .int v_24, .int v_25, .int v_26, .int v_27, .int v_28, .ref a_29, .int v_30, .ref a_31, .ref a_32, .int v_33, .int v_34, .ref a_35, .int v_36, .ref a_37, .ref a_38, .int v_39, .int v_40, .ref a_41, .ref a_42, .ref a_43, .int v_44, .ref a_45, .ref a_46, .ref a_47, .ref a_48, .ref a_49, .ref a_50, .ref a_51, .ref a_52, .ref a_53, .int v_54, .int v_55, .ref a_56])) → (f_119 a_31 = .inl (cI, 6561, .inl g_63)) → (f_119 a_1 = .inl (cI, 1560, .inl g_92)) → 256 - y_117.toInt < (n : Int) → ∀ (ls : Array Slot), lv_has ls 6 [(4, .int y_117), (3, .int y_89), (0, .ref o0), (1, .int p1), (2, .int p2)] → W p l e (headSpec (wU yX12_breaks cX12_breaks 6 none) { frames := 6, cells := 0, slots := 0, locals := 157 }).room s m [.ref o0, .int p1, .int p2].toArray below meth c H locs 0 0 (MQ below (va_Qv (fun (f9 : Nat → va_E) => GI (okc cI cL cZ cR cG cH L kd) kd L f9 ∧ (∀ b, kd b ≠ 603 → f9 b = f b)) (qP (dC, dI) cI cL cZ cR cG cH L) (fun q => q ∈ L)) [.ref o0, .int p1, .int p2].toArray s 0 0 (fun q => q ∈ L)) (F0 m 107 ls []) := by
            intro n
            induction n with
            | zero => intro y_117 by_117 f_119 hG H locs hP hS hD hfr0 hfo_120 hfo_121 hfo_122 hmuhloop_116 ls hl; exfalso; omega
            | succ n ih_hloop_116 =>
              intro y_117 by_117 f_119 hG H locs hP hS hD hfr0 hfo_120 hfo_121 hfo_122 hmuhloop_116 ls hl
              refine lv_iload hx hb dX12_breaks_107 (lv_at hl 0 rfl) ?_
              refine lv_aload_n hx hb dX12_breaks_109 rfl (lv_at hl 2 rfl) ?_
              refine tk_getP (D := (dC, dI)) (ci := 12) (v := .ref a_1) (C := RX12) (T := TX12) (N := 56) hx hb hU inlX12 hown hK hP mo0 hfo_120 rfl 0 (by decide) (hU _ wd_169) (fun _ h9 => h9) rfl dX12_breaks_110 ?_
              refine lv_bipush (v := 40) hx hb dX12_breaks_113 (by decide) ?_
              refine tk_ildP hx hb hK hP 0 ma_1 hfo_122 rfl (vp_in_nI (n := 40) (by decide) (by decide)) dX12_breaks_115 ?_
              refine lv_topi (fun x_123 ex_123 => ?_)
              have bx_123 : (0 ≤ x_123.toInt ∧ x_123.toInt ≤ 255) := by rw [ex_123]; exact hbg_92.2.2.2.2.2.2.1 _ (by decide) (by decide) (by decide)
              refine lv_icmp_gt (tgt := 140) hx hb dX12_breaks_116 (by decide) (fun c_124 => ?_) (fun c_124 => ?_)
              · skip
                rw [Int32.lt_iff_toInt_lt] at c_124
                exact W.vret hx hb hr (fun t ht hW => ⟨⟨f_119, rfl, ⟨hG, hfr0⟩, by rw [ht]; exact hP, va_K.moved hW.alike hK, pl_in hD⟩, hS.F ht⟩) hS.2.2 dX12_breaks_140
              · skip
                rw [Int32.lt_iff_toInt_lt] at c_124
                refine lv_iload hx hb dX12_breaks_119 (lv_at hl 0 rfl) ?_
                refine lv_iload_n hx hb dX12_breaks_121 rfl (lv_at hl 1 rfl) ?_
                refine lv_iand hx hb dX12_breaks_122 ?_
                refine lv_topi (fun x_125 ex_125 => ?_)
                have bx_125 : ((-2147483648) ≤ x_125.toInt ∧ x_125.toInt ≤ 2147483647) := ⟨i32_lo _, i32_hi _⟩
                have hcut_131 : ∀ (f_127 : Nat → va_E), GI (okc cI cL cZ cR cG cH L kd) kd L f_127 → ∀ (H : Heap) (locs : List Loc), va_P (dC, dI) vwCl (va_pl L f_127) H → va_S (fun q => q ∈ L) s.heap H locs → va_D (fun q => q ∈ L) (va_pl L f_127) → (∀ b, kd b ≠ 603 → f_127 b = f b) → (f_127 o0 = .inr (12, [.ref a_1, .ref a_2, .ref a_3, .int v_4, .ref a_5, .int v_6, .int v_7, .int v_8, .int v_9, .int v_10, .int v_11, .int v_12, .int v_13, .int v_14, .int v_15, .ref a_16, .ref a_17, .ref a_18, .ref a_19, .ref a_20, .ref a_21, .ref a_22, .ref a_23, .int v_24, .int v_25, .int v_26, .int v_27, .int v_28, .ref a_29, .int v_30, .ref a_31, .ref a_32, .int v_33, .int v_34, .ref a_35, .int v_36, .ref a_37, .ref a_38, .int v_39, .int v_40, .ref a_41, .ref a_42, .ref a_43, .int v_44, .ref a_45, .ref a_46, .ref a_47, .ref a_48, .ref a_49, .ref a_50, .ref a_51, .ref a_52, .ref a_53, .int v_54, .int v_55, .ref a_56])) → (f_127 a_31 = .inl (cI, 6561, .inl g_63)) → (f_127 a_1 = .inl (cI, 1560, .inl g_92)) → ∀ (ls : Array Slot), lv_has ls 6 [(4, .int y_117), (3, .int y_89), (0, .ref o0), (1, .int p1), (2, .int p2)] → W p l e (headSpec (wU yX12_breaks cX12_breaks 6 none) { frames := 6, cells := 0, slots := 0, locals := 157 }).room s m [.ref o0, .int p1, .int p2].toArray below meth c H locs 0 0 (MQ below (va_Qv (fun (f9 : Nat → va_E) => GI (okc cI cL cZ cR cG cH L kd) kd L f9 ∧ (∀ b, kd b ≠ 603 → f9 b = f b)) (qP (dC, dI) cI cL cZ cR cG cH L) (fun q => q ∈ L)) [.ref o0, .int p1, .int p2].toArray s 0 0 (fun q => q ∈ L)) (F0 m 134 ls []) := by
                  intro f_127 hG H locs hP hS hD hfr0 hfo_128 hfo_129 hfo_130 ls hl
                  obtain ⟨x_132, ex_132⟩ : ∃ y : Int32, y_117 + 1 = y := ⟨_, rfl⟩
                  have hx_132 : x_132.toInt = y_117.toInt + 1 := by rw [← ex_132, ad_I (by rw [ti_1]; omega) (by rw [ti_1]; omega), ti_1]
                  have bx_132 : (1 ≤ x_132.toInt ∧ x_132.toInt ≤ 256) := by constructor <;> omega
                  refine lv_iinc (v := x_132) (lv' := [(4, .int x_132), (3, .int y_89), (0, .ref o0), (1, .int p1), (2, .int p2)]) hx hb dX12_breaks_134 hl (k := 0) rfl ex_132 (by decide) rfl (fun ls hl => ?_)
                  refine lv_goto (tgt := 107) hx hb dX12_breaks_137 (by decide) ?_
                  exact ih_hloop_116 x_132 (by constructor <;> omega) f_127 hG _ _ hP hS hD hfr0 hfo_128 hfo_129 hfo_130 (by omega) ls (lv_sub hl [0, 1, 2, 3, 4] rfl)
                refine lv_if_ne (tgt := 134) hx hb dX12_breaks_123 (by decide) (fun c_133 => ?_) (fun c_133 => ?_)
                · skip
                  rw [← Int32.toInt_inj, ti_0] at c_133
                  exact hcut_131 f_119 hG _ _ hP hS hD hfr0 hfo_120 hfo_121 hfo_122 ls (lv_sub hl [0, 1, 2, 3, 4] rfl)
                · skip
                  rw [← Int32.toInt_inj, ti_0] at c_133
                  refine lv_aload_n hx hb dX12_breaks_126 rfl (lv_at hl 2 rfl) ?_
                  refine tk_getP (D := (dC, dI)) (ci := 12) (v := .ref a_48) (C := RX12) (T := TX12) (N := 56) hx hb hU inlX12 hown hK hP mo0 hfo_120 rfl 47 (by decide) (hU _ wd_197) (fun _ h9 => h9) rfl dX12_breaks_127 ?_
                  refine lv_iload hx hb dX12_breaks_130 (lv_at hl 0 rfl) ?_
                  refine lv_iconst (v := 1) hx hb dX12_breaks_132 (by decide) ?_
                  obtain ⟨g_135, hfo_134, hbg_135⟩ := un_603 (hG _ ma_48) ka_48
                  refine tk_zstP hx hb hK hP hD hS 2 ma_48 hfo_134 rfl (vp_in_iff.mpr (by constructor <;> omega)) (bt_n (by decide)) dX12_breaks_133 (fun H locs hP hD hS => ?_)
                  obtain ⟨f_137, ef_137⟩ : ∃ y : Nat → va_E, y = va_up f_119 a_48 (.inl (cZ, 256, .inl (upd g_135 (Int32.toNatClampNeg y_117) 1))) := ⟨_, rfl⟩
                  have hP : va_P (dC, dI) vwCl (va_pl L f_137) H := by rw [ef_137]; exact hP
                  have hD : va_D (fun q => q ∈ L) (va_pl L f_137) := by rw [ef_137]; exact hD
                  have hG : GI (okc cI cL cZ cR cG cH L kd) kd L f_137 := by rw [ef_137]; exact hG.set a_48 (mk_603 ka_48 ⟨_, rfl, okI_up hbg_135 (by decide) _⟩)
                  have hfo_138 : f_137 o0 = .inr (12, [.ref a_1, .ref a_2, .ref a_3, .int v_4, .ref a_5, .int v_6, .int v_7, .int v_8, .int v_9, .int v_10, .int v_11, .int v_12, .int v_13, .int v_14, .int v_15, .ref a_16, .ref a_17, .ref a_18, .ref a_19, .ref a_20, .ref a_21, .ref a_22, .ref a_23, .int v_24, .int v_25, .int v_26, .int v_27, .int v_28, .ref a_29, .int v_30, .ref a_31, .ref a_32, .int v_33, .int v_34, .ref a_35, .int v_36, .ref a_37, .ref a_38, .int v_39, .int v_40, .ref a_41, .ref a_42, .ref a_43, .int v_44, .ref a_45, .ref a_46, .ref a_47, .ref a_48, .ref a_49, .ref a_50, .ref a_51, .ref a_52, .ref a_53, .int v_54, .int v_55, .ref a_56]) := by rw [ef_137, up_ne (kd_ne ka_48 ko0 (by decide))]; exact hfo_120
                  have hfo_139 : f_137 a_31 = .inl (cI, 6561, .inl g_63) := by rw [ef_137, up_ne (kd_ne ka_48 ka_31 (by decide))]; exact hfo_121
                  have hfo_140 : f_137 a_1 = .inl (cI, 1560, .inl g_92) := by rw [ef_137, up_ne (kd_ne ka_48 ka_1 (by decide))]; exact hfo_122
                  have hfr0 : ∀ b, kd b ≠ 603 → f_137 b = f b := fun b q603 => (congrFun ef_137 b).trans ((up_ne (fun e9 => q603 (by rw [e9]; exact ka_48))).trans (hfr0 b q603))
                  have hfo_141 : f_137 a_48 = .inl (cZ, 256, .inl (upd g_135 (Int32.toNatClampNeg y_117) 1)) := by rw [ef_137]; exact up_self
                  exact hcut_131 f_137 hG _ _ hP hS hD hfr0 hfo_138 hfo_139 hfo_140 ls (lv_sub hl [0, 1, 2, 3, 4] rfl)
          exact hloop_116 257 0 (by decide) f hG _ _ hP hS hD hfr0 hfo_57 hfo_62 hfo_91 (by (try rw [ti_0]) <;> omega) ls hl
        · skip
          rw [Int32.le_iff_toInt_le] at c_94
          refine lv_iconst (v := 0) hx hb dX12_breaks_35 (by decide) ?_
          refine lv_istore (lv' := [(5, .int 0), (4, .int y_88), (3, .int y_89), (0, .ref o0), (1, .int p1), (2, .int p2)]) hx hb dX12_breaks_36 hl (by decide) rfl (fun ls hl => ?_)
          have hloop_166 : ∀ (n : Nat), ∀ (y_167 : Int32), (0 ≤ y_167.toInt ∧ y_167.toInt ≤ 13) → ∀ (y_168 : Int32), ((-2147483648) ≤ y_168.toInt ∧ y_168.toInt ≤ 2147483647) → ∀ (H : Heap) (locs : List Loc), va_P (dC, dI) vwCl (va_pl L f) H → va_S (fun q => q ∈ L) s.heap H locs → 13 - y_167.toInt < (n : Int) → ∀ (ls : Array Slot), lv_has ls 6 [(5, .int y_167), (4, .int y_88), (3, .int y_168), (0, .ref o0), (1, .int p1), (2, .int p2)] → W p l e (headSpec (wU yX12_breaks cX12_breaks 6 none) { frames := 6, cells := 0, slots := 0, locals := 157 }).room s m [.ref o0, .int p1, .int p2].toArray below meth c H locs 0 0 (MQ below (va_Qv (fun (f9 : Nat → va_E) => GI (okc cI cL cZ cR cG cH L kd) kd L f9 ∧ (∀ b, kd b ≠ 603 → f9 b = f b)) (qP (dC, dI) cI cL cZ cR cG cH L) (fun q => q ∈ L)) [.ref o0, .int p1, .int p2].toArray s 0 0 (fun q => q ∈ L)) (F0 m 38 ls []) := by
            intro n
            induction n with
            | zero => intro y_167 by_167 y_168 by_168 H locs hP hS hmuhloop_166 ls hl; exfalso; omega
            | succ n ih_hloop_166 =>
              intro y_167 by_167 y_168 by_168 H locs hP hS hmuhloop_166 ls hl
              refine lv_iload hx hb dX12_breaks_38 (lv_at hl 0 rfl) ?_
              refine lv_iload_n hx hb dX12_breaks_40 rfl (lv_at hl 4 rfl) ?_
              have hcut_170 : ∀ (ls : Array Slot), lv_has ls 6 [(5, .int y_167), (4, .int y_88), (3, .int y_168), (0, .ref o0), (1, .int p1), (2, .int p2)] → W p l e (headSpec (wU yX12_breaks cX12_breaks 6 none) { frames := 6, cells := 0, slots := 0, locals := 157 }).room s m [.ref o0, .int p1, .int p2].toArray below meth c H locs 0 0 (MQ below (va_Qv (fun (f9 : Nat → va_E) => GI (okc cI cL cZ cR cG cH L kd) kd L f9 ∧ (∀ b, kd b ≠ 603 → f9 b = f b)) (qP (dC, dI) cI cL cZ cR cG cH L) (fun q => q ∈ L)) [.ref o0, .int p1, .int p2].toArray s 0 0 (fun q => q ∈ L)) (F0 m 98 ls []) := by
                intro ls hl
                obtain ⟨x_171, ex_171⟩ : ∃ y : Int32, y_88 + 1 = y := ⟨_, rfl⟩
                have hx_171 : x_171.toInt = y_88.toInt + 1 := by rw [← ex_171, ad_I (by rw [ti_1]; omega) (by rw [ti_1]; omega), ti_1]
                have bx_171 : (1 ≤ x_171.toInt ∧ x_171.toInt ≤ 8) := by constructor <;> omega
                refine lv_iinc (v := x_171) (lv' := [(4, .int x_171), (5, .int y_167), (3, .int y_168), (0, .ref o0), (1, .int p1), (2, .int p2)]) hx hb dX12_breaks_98 hl (k := 1) rfl ex_171 (by decide) rfl (fun ls hl => ?_)
                refine lv_goto (tgt := 23) hx hb dX12_breaks_101 (by decide) ?_
                exact ih_hloop_87 x_171 (by constructor <;> omega) y_168 (by constructor <;> omega) _ _ hP hS (by omega) ls (lv_sub hl [0, 2, 3, 4, 5] rfl)
              refine lv_icmp_ge (tgt := 98) hx hb dX12_breaks_41 (by decide) (fun c_172 => ?_) (fun c_172 => ?_)
              · skip
                rw [Int32.le_iff_toInt_le] at c_172
                exact hcut_170 ls (lv_sub hl [0, 1, 2, 3, 4, 5] rfl)
              · skip
                rw [Int32.le_iff_toInt_le] at c_172
                refine lv_aload_n hx hb dX12_breaks_44 rfl (lv_at hl 3 rfl) ?_
                refine tk_getP (D := (dC, dI)) (ci := 12) (v := .ref a_1) (C := RX12) (T := TX12) (N := 56) hx hb hU inlX12 hown hK hP mo0 hfo_57 rfl 0 (by decide) (hU _ wd_169) (fun _ h9 => h9) rfl dX12_breaks_45 ?_
                refine lv_bipush (v := 40) hx hb dX12_breaks_48 (by decide) ?_
                refine tk_ildP hx hb hK hP 0 ma_1 hfo_91 rfl (vp_in_nI (n := 40) (by decide) (by decide)) dX12_breaks_50 ?_
                refine lv_topi (fun x_173 ex_173 => ?_)
                have bx_173 : (0 ≤ x_173.toInt ∧ x_173.toInt ≤ 255) := by rw [ex_173]; exact hbg_92.2.2.2.2.2.2.1 _ (by decide) (by decide) (by decide)
                refine lv_iload hx hb dX12_breaks_51 (lv_at hl 1 rfl) ?_
                refine lv_ishr hx hb dX12_breaks_53 ?_
                refine lv_topi (fun x_174 ex_174 => ?_)
                have bx_174 : ((-2147483648) ≤ x_174.toInt ∧ x_174.toInt ≤ 2147483647) := ⟨i32_lo _, i32_hi _⟩
                refine lv_iconst (v := 1) hx hb dX12_breaks_54 (by decide) ?_
                refine lv_iand hx hb dX12_breaks_55 ?_
                refine lv_topi (fun x_175 ex_175 => ?_)
                have bx_175 : (0 ≤ x_175.toInt ∧ x_175.toInt ≤ 1) := by rw [ex_175]; have h8 := an_C x_174 (m := 1) (by decide); rw [ti_1] at h8; exact h8
                refine lv_iconst (v := 1) hx hb dX12_breaks_56 (by decide) ?_
                refine lv_icmp_ne (tgt := 98) hx hb dX12_breaks_57 (by decide) (fun c_176 => ?_) (fun c_176 => ?_)
                · skip
                  rw [← Int32.toInt_inj, ti_1] at c_176
                  exact hcut_170 ls (lv_sub hl [0, 1, 2, 3, 4, 5] rfl)
                · skip
                  rw [← Int32.toInt_inj, ti_1] at c_176
                  refine lv_iload_n hx hb dX12_breaks_60 rfl (lv_at hl 2 rfl) ?_
                  refine lv_iload hx hb dX12_breaks_61 (lv_at hl 1 rfl) ?_
                  refine lv_ishr hx hb dX12_breaks_63 ?_
                  refine lv_topi (fun x_177 ex_177 => ?_)
                  have bx_177 : ((-2147483648) ≤ x_177.toInt ∧ x_177.toInt ≤ 2147483647) := ⟨i32_lo _, i32_hi _⟩
                  refine lv_iconst (v := 1) hx hb dX12_breaks_64 (by decide) ?_
                  refine lv_iand hx hb dX12_breaks_65 ?_
                  refine lv_topi (fun x_178 ex_178 => ?_)
                  have bx_178 : (0 ≤ x_178.toInt ∧ x_178.toInt ≤ 1) := by rw [ex_178]; have h8 := an_C x_177 (m := 1) (by decide); rw [ti_1] at h8; exact h8
                  refine lv_if_ne (tgt := 98) hx hb dX12_breaks_66 (by decide) (fun c_179 => ?_) (fun c_179 => ?_)
                  · skip
                    rw [← Int32.toInt_inj, ti_0] at c_179
                    exact hcut_170 ls (lv_sub hl [0, 1, 2, 3, 4, 5] rfl)
                  · skip
                    rw [← Int32.toInt_inj, ti_0] at c_179
                    refine lv_aload_n hx hb dX12_breaks_69 rfl (lv_at hl 3 rfl) ?_
                    refine lv_iload hx hb dX12_breaks_70 (lv_at hl 1 rfl) ?_
                    refine lv_iload hx hb dX12_breaks_72 (lv_at hl 0 rfl) ?_
                    refine lv_aload_n hx hb dX12_breaks_74 rfl (lv_at hl 3 rfl) ?_
                    refine tk_getP (D := (dC, dI)) (ci := 12) (v := .ref a_21) (C := RX12) (T := TX12) (N := 56) hx hb hU inlX12 hown hK hP mo0 hfo_57 rfl 20 (by decide) (hU _ wd_180) (fun _ h9 => h9) rfl dX12_breaks_75 ?_
                    refine lv_iload_n hx hb dX12_breaks_78 rfl (lv_at hl 4 rfl) ?_
                    refine tk_ViP (As := [.int y_88, .int y_167, .ref a_21, .int p1]) (rest := []) (n := 4) hx hb hml hown hU hN hZ (s_X12_isBroken_k12_a588 l (dC, dI) cI cL cZ cR cG cH Z kd L f hG o0 mo0 ko0 y_88 (by constructor <;> omega) y_167 (by constructor <;> omega) a_21 ma_21 ka_21 p1 (by constructor <;> omega)) wd_930 wd_931 wd_932 wd_5 wd_933 (by decide +kernel) ⟨Nat.le_of_ble_eq_true rfl, Nat.le_of_ble_eq_true rfl⟩ hK hP hD hS mo0 hfo_57 12 rfl rfl rfl hl.1 rfl (Nat.le_of_ble_eq_true rfl) dX12_breaks_79 ⟨Nat.le_of_ble_eq_true rfl, Nat.le_of_ble_eq_true rfl⟩ (fun x_180 f_181 H locs hw hP hD hS => ?_)
                    obtain ⟨rfl, bx_180⟩ := hw
                    have hcut_184 : ∀ (y_183 : Int32), ((-2147483648) ≤ y_183.toInt ∧ y_183.toInt ≤ 2147483647) → ∀ (ls : Array Slot), lv_has ls 6 [(5, .int y_167), (4, .int y_88), (3, .int y_183), (0, .ref o0), (1, .int p1), (2, .int p2)] → W p l e (headSpec (wU yX12_breaks cX12_breaks 6 none) { frames := 6, cells := 0, slots := 0, locals := 157 }).room s m [.ref o0, .int p1, .int p2].toArray below meth c H locs 0 0 (MQ below (va_Qv (fun (f9 : Nat → va_E) => GI (okc cI cL cZ cR cG cH L kd) kd L f9 ∧ (∀ b, kd b ≠ 603 → f9 b = f b)) (qP (dC, dI) cI cL cZ cR cG cH L) (fun q => q ∈ L)) [.ref o0, .int p1, .int p2].toArray s 0 0 (fun q => q ∈ L)) (F0 m 92 ls []) := by
                      intro y_183 by_183 ls hl
                      obtain ⟨x_185, ex_185⟩ : ∃ y : Int32, y_167 + 1 = y := ⟨_, rfl⟩
                      have hx_185 : x_185.toInt = y_167.toInt + 1 := by rw [← ex_185, ad_I (by rw [ti_1]; omega) (by rw [ti_1]; omega), ti_1]
                      have bx_185 : (1 ≤ x_185.toInt ∧ x_185.toInt ≤ 13) := by constructor <;> omega
                      refine lv_iinc (v := x_185) (lv' := [(5, .int x_185), (4, .int y_88), (3, .int y_183), (0, .ref o0), (1, .int p1), (2, .int p2)]) hx hb dX12_breaks_92 hl (k := 0) rfl ex_185 (by decide) rfl (fun ls hl => ?_)
                      refine lv_goto (tgt := 38) hx hb dX12_breaks_95 (by decide) ?_
                      exact ih_hloop_166 x_185 (by constructor <;> omega) y_183 (by constructor <;> omega) _ _ hP hS (by omega) ls (lv_sub hl [0, 1, 2, 3, 4, 5] rfl)
                    refine lv_if_eq (tgt := 92) hx hb dX12_breaks_82 (by decide) (fun c_186 => ?_) (fun c_186 => ?_)
                    · skip
                      rw [← Int32.toInt_inj, ti_0] at c_186
                      exact hcut_184 y_168 (by constructor <;> omega) ls (lv_sub hl [0, 1, 2, 3, 4, 5] rfl)
                    · skip
                      rw [← Int32.toInt_inj, ti_0] at c_186
                      refine lv_iload_n hx hb dX12_breaks_85 rfl (lv_at hl 2 rfl) ?_
                      refine lv_iconst (v := 1) hx hb dX12_breaks_86 (by decide) ?_
                      refine lv_iload hx hb dX12_breaks_87 (lv_at hl 1 rfl) ?_
                      refine lv_ishl hx hb dX12_breaks_89 ?_
                      refine lv_topi (fun x_187 ex_187 => ?_)
                      have bx_187 : (1 ≤ x_187.toInt ∧ x_187.toInt ≤ 128) := by rw [ex_187]; exact sh_7 (by constructor <;> omega)
                      refine lv_ior hx hb dX12_breaks_90 ?_
                      refine lv_topi (fun x_188 ex_188 => ?_)
                      have bx_188 : ((-2147483648) ≤ x_188.toInt ∧ x_188.toInt ≤ 2147483647) := ⟨i32_lo _, i32_hi _⟩
                      refine lv_istore_n (lv' := [(3, .int x_188), (5, .int y_167), (4, .int y_88), (0, .ref o0), (1, .int p1), (2, .int p2)]) hx hb dX12_breaks_91 rfl hl (by decide) rfl (fun ls hl => ?_)
                      exact hcut_184 x_188 (by constructor <;> omega) ls (lv_sub hl [1, 2, 0, 3, 4, 5] rfl)
          exact hloop_166 14 0 (by decide) y_89 (by constructor <;> omega) _ _ hP hS (by (try rw [ti_0]) <;> omega) ls hl
    exact hloop_87 9 0 (by decide) 0 (by decide) _ _ hP hS (by (try rw [ti_0]) <;> omega) ls hl
  · skip
    rw [← Int32.toInt_inj] at c_65
    exact W.vret hx hb hr (fun t ht hW => ⟨⟨f, rfl, ⟨hG, hfr0⟩, by rw [ht]; exact hP, va_K.moved hW.alike hK, pl_in hD⟩, hS.F ht⟩) hS.2.2 dX12_breaks_17
set_option maxHeartbeats 8000000 in
set_option maxRecDepth 100000 in
theorem s_X12_completes_k12 (l : Launch) (D : va_G) (cI cL cZ cR cG cH : ClassId) (Z : zT) (kd : Nat → Nat) (L : List Nat) (f : Nat → va_E) (hG : GI (okc cI cL cZ cR cG cH L kd) kd L f) (o0 : Nat) (mo0 : o0 ∈ L) (ko0 : kd o0 = 12) (p1 : Int32) (bp1 : (0 ≤ p1.toInt ∧ p1.toInt ≤ 13)) (p2 : Int32) (bp2 : (0 ≤ p2.toInt ∧ p2.toInt ≤ 13)) (hpreo0 : ∀ (w23 : Int32) (w25 : Int32) (w27 : Int32) (w29 : Int32), fldI (f o0) 23 = some w23 → fldI (f o0) 25 = some w25 → fldI (f o0) 27 = some w27 → fldI (f o0) 29 = some w29 → w27.toInt = 0 ∧ w29.toInt ≤ 200 ∧ (w25.toInt ≤ 1 ∨ w25.toInt = 3 ∨ p2.toInt ≤ 4)) (hxtr0 : srel kd 592 f o0) : mPV l D cI cL cZ cR cG cH Z yX12_completes cX12_completes 4 none 7 182 [.ref o0, .int p1, .int p2] L f (fun (f9 : Nat → va_E) => GI (okc cI cL cZ cR cG cH L kd) kd L f9 ∧ (∀ b, kd b ≠ 12 → kd b ≠ 591 → kd b ≠ 592 → kd b ≠ 593 → kd b ≠ 603 → f9 b = f b) ∧ (∀ b, kd b = 12 → ∀ j, fldR (f9 b) j = fldR (f b) j) ∧ (∀ b, kd b = 12 → ∀ j, j ≠ 27 → j ≠ 29 → j ≠ 32 → fldI (f9 b) j = fldI (f b) j) ∧ (∀ (w25 z25 : Int32) (w27 z27 : Int32) (w29 z29 : Int32), fldI (f o0) 25 = some w25 → fldI (f o0) 27 = some w27 → fldI (f o0) 29 = some w29 → fldI (f9 o0) 25 = some z25 → fldI (f9 o0) 27 = some z27 → fldI (f9 o0) 29 = some z29 → (z27.toInt = 1 ∨ z29.toInt ≤ 200) ∧ (w25.toInt ≤ 1 ∨ z29.toInt = w29.toInt)) ∧ (srel kd 592 f9 o0)) := by
  obtain ⟨dC, dI⟩ := D
  refine Met.ofW (cc := cX12_completes) (maxL := 4) (ret := none) (by decide) rfl ?_
  intro p e s m args below meth c s₁ B hml hv
  obtain ⟨rfl, hP, hK, hD0, hN, hZ⟩ := hv
  have hx := B.exec
  have hb := B.bytes
  have hr := B.returns
  have hU : ∀ w ∈ wsU, w.before _ s = true := fun w h => atoms_spec (ws := wU yX12_completes cX12_completes 4 none) B.pre w (List.mem_cons_of_mem _ h)
  have hown : s.vm.findClass RX12 = some m.cls := findClass_of_methodNamed B.named
  have hlocks := B.notSynchronized
  have hD := pl_in hD0
  have hS : va_S (fun q => q ∈ L) s.heap s.heap [] := va_S.rf
  have hl := lv_entry ([.ref o0, .int p1, .int p2]) (n := 4) (Nat.le_of_ble_eq_true rfl)
  rw [lg_entry_eq]
  generalize (lg_sl ([.ref o0, .int p1, .int p2]) ++ List.replicate (4 - (lg_sl ([.ref o0, .int p1, .int p2])).length) Slot.unset).toArray = ls at hl ⊢
  have hl : lv_has ls 4 [(0, .ref o0), (1, .int p1), (2, .int p2)] := hl
  have hfr0 : ∀ b, kd b ≠ 12 → kd b ≠ 591 → kd b ≠ 592 → kd b ≠ 593 → kd b ≠ 603 → f b = f b := fun _ _ _ _ _ _ => rfl
  have hrA12 : ∀ b, kd b = 12 → ∀ j, fldR (f b) j = fldR (f b) j := fun _ _ _ => rfl
  have hfA12 : ∀ b, kd b = 12 → ∀ j, j ≠ 27 → j ≠ 29 → j ≠ 32 → fldI (f b) j = fldI (f b) j := fun _ _ _ _ _ _ => rfl
  obtain ⟨a_1, a_2, a_3, v_4, a_5, v_6, v_7, v_8, v_9, v_10, v_11, v_12, v_13, v_14, v_15, a_16, a_17, a_18, a_19, a_20, a_21, a_22, a_23, v_24, v_25, v_26, v_27, v_28, a_29, v_30, a_31, a_32, v_33, v_34, a_35, v_36, a_37, a_38, v_39, v_40, a_41, a_42, a_43, v_44, a_45, a_46, a_47, a_48, a_49, a_50, a_51, a_52, a_53, v_54, v_55, a_56, hfo_57, fa_58⟩ := un12 (hG _ mo0) ko0
  obtain ⟨ma_21, ka_21⟩ := fa12_20 fa_58
  have bv_24 : (0 ≤ v_24.toInt ∧ v_24.toInt ≤ 12) := fa12_23 fa_58
  have bv_26 : (0 ≤ v_26.toInt ∧ v_26.toInt ≤ 4) := fa12_25 fa_58
  have bv_27 : ((-2147483648) ≤ v_27.toInt ∧ v_27.toInt ≤ 2147483647) := ⟨i32_lo _, i32_hi _⟩
  have bv_28 : (0 ≤ v_28.toInt ∧ v_28.toInt ≤ 1) := fa12_27 fa_58
  have bv_30 : (0 ≤ v_30.toInt ∧ v_30.toInt ≤ 201) := fa12_29 fa_58
  have hpo0 := hpreo0 v_24 v_26 v_28 v_30 (by rw [hfo_57]; rfl) (by rw [hfo_57]; rfl) (by rw [hfo_57]; rfl) (by rw [hfo_57]; rfl)
  have hT0 := hxtr0
  refine lv_aload_n hx hb dX12_completes_0 rfl (lv_at hl 0 rfl) ?_
  refine tk_getP (D := (dC, dI)) (ci := 12) (v := .int v_26) (C := RX12) (T := TX12) (N := 56) hx hb hU inlX12 hown hK hP mo0 hfo_57 rfl 25 (by decide) (hU _ wd_872) (fun _ h9 => h9) rfl dX12_completes_1 ?_
  by_cases c_59 : v_26 = 0
  · refine tk_topi (y := 0) c_59 ?_
    have tc_59 : v_26.toInt = 0 := by rw [c_59]; rfl
    refine lv_tableIn (tgt := 36) hx hb dX12_completes_4 (by decide) (by decide) rfl (by decide) ?_
    refine lv_aload_n hx hb dX12_completes_36 rfl (lv_at hl 0 rfl) ?_
    refine lv_iload_n hx hb dX12_completes_37 rfl (lv_at hl 2 rfl) ?_
    refine tk_VvP (As := [.int p2]) (rest := []) (n := 1) hx hb hml hown hU hN hZ (s_X12_finds_k12 l (dC, dI) cI cL cZ cR cG cH Z kd L f hG o0 mo0 ko0 p2 (by constructor <;> omega) (by intro w29 e29; rw [hfo_57] at e29; obtain rfl := Option.some.inj e29; omega)) wd_907 wd_908 wd_909 wd_5 wd_910 (by decide +kernel) ⟨Nat.le_of_ble_eq_true rfl, Nat.le_of_ble_eq_true rfl⟩ hK hP hD hS mo0 hfo_57 12 rfl rfl rfl hl.1 rfl (Nat.le_of_ble_eq_true rfl) dX12_completes_38 ⟨Nat.le_of_ble_eq_true rfl, Nat.le_of_ble_eq_true rfl⟩ (fun f_61 H locs hw hP hD hS => ?_)
    obtain ⟨hG, hkc_62, hra_63, hfa_64, hpost_65⟩ := hw
    have hfr0 : ∀ b, kd b ≠ 12 → kd b ≠ 591 → kd b ≠ 592 → kd b ≠ 593 → kd b ≠ 603 → f_61 b = f b := fun b q12 q591 q592 q593 q603 => (hkc_62 b q12 q591).trans (hfr0 b q12 q591 q592 q593 q603)
    have hrA12 : ∀ b, kd b = 12 → ∀ j, fldR (f_61 b) j = fldR (f b) j := fun b kb j => (hra_63 b kb j).trans (hrA12 b kb j)
    have hfA12 : ∀ b, kd b = 12 → ∀ j, j ≠ 27 → j ≠ 29 → j ≠ 32 → fldI (f_61 b) j = fldI (f b) j := fun b kb j n27 n29 n32 => (hfa_64 b kb j n27 n29).trans (hfA12 b kb j n27 n29 n32)
    have hT0 : srel kd 592 f_61 o0 := hT0.keep (fun b q => hra_63 b q 30) (fun b q => hfa_64 b q 32 (by decide) (by decide)) (fun b q => hfa_64 b q 33 (by decide) (by decide)) (fun b q => hkc_62 b (by rw [q]; decide) (by rw [q]; decide))
    obtain ⟨v_67, v_68, hfo_69, fa_70⟩ := op12_27_29 hfo_57 (hG _ mo0) ko0 (hra_63 o0 ko0) (hfa_64 o0 ko0)
    have bv_67 : (0 ≤ v_67.toInt ∧ v_67.toInt ≤ 1) := fa12_27 fa_70
    have bv_68 : (0 ≤ v_68.toInt ∧ v_68.toInt ≤ 201) := fa12_29 fa_70
    have hqhpost_65 := hpost_65 v_28 v_67 v_30 v_68 (by rw [hfo_57]; rfl) (by rw [hfo_57]; rfl) (by rw [hfo_69]; rfl) (by rw [hfo_69]; rfl)
    refine lv_goto (tgt := 103) hx hb dX12_completes_41 (by decide) ?_
    exact W.vret hx hb hr (fun t ht hW => ⟨⟨f_61, rfl, ⟨hG, hfr0, hrA12, hfA12, (by intro w25 z25 w27 z27 w29 z29 e25 e27 e29 d25 d27 d29; rw [hfo_57] at e25 e27 e29; rw [hfo_69] at d25 d27 d29; obtain rfl := Option.some.inj e25; obtain rfl := Option.some.inj d25; obtain rfl := Option.some.inj e27; obtain rfl := Option.some.inj d27; obtain rfl := Option.some.inj e29; obtain rfl := Option.some.inj d29; omega), hT0⟩, by rw [ht]; exact hP, va_K.moved hW.alike hK, pl_in hD⟩, hS.F ht⟩) hS.2.2 dX12_completes_103
  by_cases c_71 : v_26 = 1
  · refine tk_topi (y := 1) c_71 ?_
    have tc_71 : v_26.toInt = 1 := by rw [c_71]; rfl
    refine lv_tableIn (tgt := 36) hx hb dX12_completes_4 (by decide) (by decide) rfl (by decide) ?_
    refine lv_aload_n hx hb dX12_completes_36 rfl (lv_at hl 0 rfl) ?_
    refine lv_iload_n hx hb dX12_completes_37 rfl (lv_at hl 2 rfl) ?_
    refine tk_VvP (As := [.int p2]) (rest := []) (n := 1) hx hb hml hown hU hN hZ (s_X12_finds_k12 l (dC, dI) cI cL cZ cR cG cH Z kd L f hG o0 mo0 ko0 p2 (by constructor <;> omega) (by intro w29 e29; rw [hfo_57] at e29; obtain rfl := Option.some.inj e29; omega)) wd_907 wd_908 wd_909 wd_5 wd_910 (by decide +kernel) ⟨Nat.le_of_ble_eq_true rfl, Nat.le_of_ble_eq_true rfl⟩ hK hP hD hS mo0 hfo_57 12 rfl rfl rfl hl.1 rfl (Nat.le_of_ble_eq_true rfl) dX12_completes_38 ⟨Nat.le_of_ble_eq_true rfl, Nat.le_of_ble_eq_true rfl⟩ (fun f_73 H locs hw hP hD hS => ?_)
    obtain ⟨hG, hkc_74, hra_75, hfa_76, hpost_77⟩ := hw
    have hfr0 : ∀ b, kd b ≠ 12 → kd b ≠ 591 → kd b ≠ 592 → kd b ≠ 593 → kd b ≠ 603 → f_73 b = f b := fun b q12 q591 q592 q593 q603 => (hkc_74 b q12 q591).trans (hfr0 b q12 q591 q592 q593 q603)
    have hrA12 : ∀ b, kd b = 12 → ∀ j, fldR (f_73 b) j = fldR (f b) j := fun b kb j => (hra_75 b kb j).trans (hrA12 b kb j)
    have hfA12 : ∀ b, kd b = 12 → ∀ j, j ≠ 27 → j ≠ 29 → j ≠ 32 → fldI (f_73 b) j = fldI (f b) j := fun b kb j n27 n29 n32 => (hfa_76 b kb j n27 n29).trans (hfA12 b kb j n27 n29 n32)
    have hT0 : srel kd 592 f_73 o0 := hT0.keep (fun b q => hra_75 b q 30) (fun b q => hfa_76 b q 32 (by decide) (by decide)) (fun b q => hfa_76 b q 33 (by decide) (by decide)) (fun b q => hkc_74 b (by rw [q]; decide) (by rw [q]; decide))
    obtain ⟨v_79, v_80, hfo_81, fa_82⟩ := op12_27_29 hfo_57 (hG _ mo0) ko0 (hra_75 o0 ko0) (hfa_76 o0 ko0)
    have bv_79 : (0 ≤ v_79.toInt ∧ v_79.toInt ≤ 1) := fa12_27 fa_82
    have bv_80 : (0 ≤ v_80.toInt ∧ v_80.toInt ≤ 201) := fa12_29 fa_82
    have hqhpost_77 := hpost_77 v_28 v_79 v_30 v_80 (by rw [hfo_57]; rfl) (by rw [hfo_57]; rfl) (by rw [hfo_81]; rfl) (by rw [hfo_81]; rfl)
    refine lv_goto (tgt := 103) hx hb dX12_completes_41 (by decide) ?_
    exact W.vret hx hb hr (fun t ht hW => ⟨⟨f_73, rfl, ⟨hG, hfr0, hrA12, hfA12, (by intro w25 z25 w27 z27 w29 z29 e25 e27 e29 d25 d27 d29; rw [hfo_57] at e25 e27 e29; rw [hfo_81] at d25 d27 d29; obtain rfl := Option.some.inj e25; obtain rfl := Option.some.inj d25; obtain rfl := Option.some.inj e27; obtain rfl := Option.some.inj d27; obtain rfl := Option.some.inj e29; obtain rfl := Option.some.inj d29; omega), hT0⟩, by rw [ht]; exact hP, va_K.moved hW.alike hK, pl_in hD⟩, hS.F ht⟩) hS.2.2 dX12_completes_103
  by_cases c_83 : v_26 = 2
  · refine tk_topi (y := 2) c_83 ?_
    have tc_83 : v_26.toInt = 2 := by rw [c_83]; rfl
    refine lv_tableIn (tgt := 44) hx hb dX12_completes_4 (by decide) (by decide) rfl (by decide) ?_
    have hclc_84 : (0 ≤ p2.toInt ∧ p2.toInt ≤ 4) := by constructor <;> omega
    refine lv_aload_n hx hb dX12_completes_44 rfl (lv_at hl 0 rfl) ?_
    refine lv_iload_n hx hb dX12_completes_45 rfl (lv_at hl 2 rfl) ?_
    refine tk_VvP (As := [.int p2]) (rest := []) (n := 1) hx hb hml hown hU hN hZ (s_X12_marks_k12 l (dC, dI) cI cL cZ cR cG cH Z kd L f hG o0 mo0 ko0 p2 (by constructor <;> omega) hT0) wd_916 wd_917 wd_918 wd_5 wd_919 (by decide +kernel) ⟨Nat.le_of_ble_eq_true rfl, Nat.le_of_ble_eq_true rfl⟩ hK hP hD hS mo0 hfo_57 12 rfl rfl rfl hl.1 rfl (Nat.le_of_ble_eq_true rfl) dX12_completes_46 ⟨Nat.le_of_ble_eq_true rfl, Nat.le_of_ble_eq_true rfl⟩ (fun f_86 H locs hw hP hD hS => ?_)
    obtain ⟨hG, hkc_87, hra_88, hfa_89, hTc_90⟩ := hw
    have hfr0 : ∀ b, kd b ≠ 12 → kd b ≠ 591 → kd b ≠ 592 → kd b ≠ 593 → kd b ≠ 603 → f_86 b = f b := fun b q12 q591 q592 q593 q603 => (hkc_87 b q12 q592 q593).trans (hfr0 b q12 q591 q592 q593 q603)
    have hrA12 : ∀ b, kd b = 12 → ∀ j, fldR (f_86 b) j = fldR (f b) j := fun b kb j => (hra_88 b kb j).trans (hrA12 b kb j)
    have hfA12 : ∀ b, kd b = 12 → ∀ j, j ≠ 27 → j ≠ 29 → j ≠ 32 → fldI (f_86 b) j = fldI (f b) j := fun b kb j n27 n29 n32 => (hfa_89 b kb j n32).trans (hfA12 b kb j n27 n29 n32)
    obtain ⟨v_92, hfo_93, fa_94⟩ := op12_32 hfo_57 (hG _ mo0) ko0 (hra_88 o0 ko0) (hfa_89 o0 ko0)
    have bv_92 : (0 ≤ v_92.toInt ∧ v_92.toInt ≤ 6561) := fa12_32 fa_94
    refine lv_goto (tgt := 103) hx hb dX12_completes_49 (by decide) ?_
    exact W.vret hx hb hr (fun t ht hW => ⟨⟨f_86, rfl, ⟨hG, hfr0, hrA12, hfA12, (by intro w25 z25 w27 z27 w29 z29 e25 e27 e29 d25 d27 d29; rw [hfo_57] at e25 e27 e29; rw [hfo_93] at d25 d27 d29; obtain rfl := Option.some.inj e25; obtain rfl := Option.some.inj d25; obtain rfl := Option.some.inj e27; obtain rfl := Option.some.inj d27; obtain rfl := Option.some.inj e29; obtain rfl := Option.some.inj d29; omega), hTc_90⟩, by rw [ht]; exact hP, va_K.moved hW.alike hK, pl_in hD⟩, hS.F ht⟩) hS.2.2 dX12_completes_103
  by_cases c_95 : v_26 = 3
  · refine tk_topi (y := 3) c_95 ?_
    have tc_95 : v_26.toInt = 3 := by rw [c_95]; rfl
    refine lv_tableIn (tgt := 52) hx hb dX12_completes_4 (by decide) (by decide) rfl (by decide) ?_
    refine lv_iconst (v := 0) hx hb dX12_completes_52 (by decide) ?_
    refine lv_istore_n (lv' := [(3, .int 0), (0, .ref o0), (1, .int p1), (2, .int p2)]) hx hb dX12_completes_53 rfl hl (by decide) rfl (fun ls hl => ?_)
    have hloop_119 : ∀ (n : Nat), ∀ (y_120 : Int32), (0 ≤ y_120.toInt ∧ y_120.toInt ≤ 13) → ∀ (f_122 : Nat → va_E), GI (okc cI cL cZ cR cG cH L kd) kd L f_122 → ∀ (H : Heap) (locs : List Loc), va_P (dC, dI) vwCl (va_pl L f_122) H → va_S (fun q => q ∈ L) s.heap H locs → va_D (fun q => q ∈ L) (va_pl L f_122) → (∀ b, kd b ≠ 12 → kd b ≠ 591 → kd b ≠ 592 → kd b ≠ 593 → kd b ≠ 603 → f_122 b = f b) → (∀ b, kd b = 12 → ∀ j, fldR (f_122 b) j = fldR (f b) j) → (∀ b, kd b = 12 → ∀ j, j ≠ 27 → j ≠ 29 → j ≠ 32 → fldI (f_122 b) j = fldI (f b) j) → srel kd 592 f_122 o0 → ∀ (whloop_119_0_29 : Int32), fldI (f_122 o0) 29 = some whloop_119_0_29 → (whloop_119_0_29.toInt = v_30.toInt) → (0 ≤ whloop_119_0_29.toInt ∧ whloop_119_0_29.toInt ≤ 201) → 13 - y_120.toInt < (n : Int) → ∀ (ls : Array Slot), lv_has ls 4 [(3, .int y_120), (0, .ref o0), (1, .int p1), (2, .int p2)] → W p l e (headSpec (wU yX12_completes cX12_completes 4 none) { frames := 7, cells := 0, slots := 0, locals := 182 }).room s m [.ref o0, .int p1, .int p2].toArray below meth c H locs 0 0 (MQ below (va_Qv (fun (f9 : Nat → va_E) => GI (okc cI cL cZ cR cG cH L kd) kd L f9 ∧ (∀ b, kd b ≠ 12 → kd b ≠ 591 → kd b ≠ 592 → kd b ≠ 593 → kd b ≠ 603 → f9 b = f b) ∧ (∀ b, kd b = 12 → ∀ j, fldR (f9 b) j = fldR (f b) j) ∧ (∀ b, kd b = 12 → ∀ j, j ≠ 27 → j ≠ 29 → j ≠ 32 → fldI (f9 b) j = fldI (f b) j) ∧ (∀ (w25 z25 : Int32) (w27 z27 : Int32) (w29 z29 : Int32), fldI (f o0) 25 = some w25 → fldI (f o0) 27 = some w27 → fldI (f o0) 29 = some w29 → fldI (f9 o0) 25 = some z25 → fldI (f9 o0) 27 = some z27 → fldI (f9 o0) 29 = some z29 → (z27.toInt = 1 ∨ z29.toInt ≤ 200) ∧ (w25.toInt ≤ 1 ∨ z29.toInt = w29.toInt)) ∧ (srel kd 592 f9 o0)) (qP (dC, dI) cI cL cZ cR cG cH L) (fun q => q ∈ L)) [.ref o0, .int p1, .int p2].toArray s 0 0 (fun q => q ∈ L)) (F0 m 54 ls []) := by
      intro n
      induction n with
      | zero => intro y_120 by_120 f_122 hG H locs hP hS hD hfr0 hrA12 hfA12 hT0 whloop_119_0_29 hghloop_119_0_29 hrelhloop_119_0 hrelhloop_119_1 hmuhloop_119 ls hl; exfalso; omega
      | succ n ih_hloop_119 =>
        intro y_120 by_120 f_122 hG H locs hP hS hD hfr0 hrA12 hfA12 hT0 whloop_119_0_29 hghloop_119_0_29 hrelhloop_119_0 hrelhloop_119_1 hmuhloop_119 ls hl
        obtain ⟨v_123, v_124, v_125, hfo_126, fa_127⟩ := op12_27_29_32 hfo_57 (hG _ mo0) ko0 (hrA12 o0 ko0) (hfA12 o0 ko0)
        have bv_123 : (0 ≤ v_123.toInt ∧ v_123.toInt ≤ 1) := fa12_27 fa_127
        have bv_124 : (0 ≤ v_124.toInt ∧ v_124.toInt ≤ 201) := fa12_29 fa_127
        have bv_125 : (0 ≤ v_125.toInt ∧ v_125.toInt ≤ 6561) := fa12_32 fa_127
        obtain rfl : v_124 = whloop_119_0_29 := by rw [hfo_126] at hghloop_119_0_29; exact Option.some.inj hghloop_119_0_29
        refine lv_iload_n hx hb dX12_completes_54 rfl (lv_at hl 0 rfl) ?_
        refine lv_iload_n hx hb dX12_completes_55 rfl (lv_at hl 2 rfl) ?_
        refine lv_icmp_ge (tgt := 94) hx hb dX12_completes_56 (by decide) (fun c_128 => ?_) (fun c_128 => ?_)
        · skip
          rw [Int32.le_iff_toInt_le] at c_128
          refine lv_goto (tgt := 103) hx hb dX12_completes_94 (by decide) ?_
          exact W.vret hx hb hr (fun t ht hW => ⟨⟨f_122, rfl, ⟨hG, hfr0, hrA12, hfA12, (by intro w25 z25 w27 z27 w29 z29 e25 e27 e29 d25 d27 d29; rw [hfo_57] at e25 e27 e29; rw [hfo_126] at d25 d27 d29; obtain rfl := Option.some.inj e25; obtain rfl := Option.some.inj d25; obtain rfl := Option.some.inj e27; obtain rfl := Option.some.inj d27; obtain rfl := Option.some.inj e29; obtain rfl := Option.some.inj d29; omega), hT0⟩, by rw [ht]; exact hP, va_K.moved hW.alike hK, pl_in hD⟩, hS.F ht⟩) hS.2.2 dX12_completes_103
        · skip
          rw [Int32.le_iff_toInt_le] at c_128
          refine lv_aload_n hx hb dX12_completes_59 rfl (lv_at hl 1 rfl) ?_
          refine tk_getP (D := (dC, dI)) (ci := 12) (v := .int v_123) (C := RX12) (T := TX12) (N := 56) hx hb hU inlX12 hown hK hP mo0 hfo_126 rfl 27 (by decide) (hU _ wd_873) (fun _ h9 => h9) rfl dX12_completes_60 ?_
          refine lv_if_ne (tgt := 94) hx hb dX12_completes_63 (by decide) (fun c_129 => ?_) (fun c_129 => ?_)
          · skip
            rw [← Int32.toInt_inj, ti_0] at c_129
            refine lv_goto (tgt := 103) hx hb dX12_completes_94 (by decide) ?_
            exact W.vret hx hb hr (fun t ht hW => ⟨⟨f_122, rfl, ⟨hG, hfr0, hrA12, hfA12, (by intro w25 z25 w27 z27 w29 z29 e25 e27 e29 d25 d27 d29; rw [hfo_57] at e25 e27 e29; rw [hfo_126] at d25 d27 d29; obtain rfl := Option.some.inj e25; obtain rfl := Option.some.inj d25; obtain rfl := Option.some.inj e27; obtain rfl := Option.some.inj d27; obtain rfl := Option.some.inj e29; obtain rfl := Option.some.inj d29; omega), hT0⟩, by rw [ht]; exact hP, va_K.moved hW.alike hK, pl_in hD⟩, hS.F ht⟩) hS.2.2 dX12_completes_103
          · skip
            rw [← Int32.toInt_inj, ti_0] at c_129
            refine lv_aload_n hx hb dX12_completes_66 rfl (lv_at hl 1 rfl) ?_
            refine lv_aload_n hx hb dX12_completes_67 rfl (lv_at hl 1 rfl) ?_
            refine tk_getP (D := (dC, dI)) (ci := 12) (v := .ref a_21) (C := RX12) (T := TX12) (N := 56) hx hb hU inlX12 hown hK hP mo0 hfo_126 rfl 20 (by decide) (hU _ wd_180) (fun _ h9 => h9) rfl dX12_completes_68 ?_
            refine lv_iload_n hx hb dX12_completes_71 rfl (lv_at hl 0 rfl) ?_
            obtain ⟨g_131, hfo_130, hbg_131⟩ := un_588 (hG _ ma_21) ka_21
            refine tk_ildP hx hb hK hP 0 ma_21 hfo_130 rfl (vp_in_iff.mpr (by constructor <;> omega)) dX12_completes_72 ?_
            refine lv_topi (fun x_132 ex_132 => ?_)
            have bx_132 : ((-2147483648) ≤ x_132.toInt ∧ x_132.toInt ≤ 2147483647) := ⟨i32_lo _, i32_hi _⟩
            refine lv_aload_n hx hb dX12_completes_73 rfl (lv_at hl 1 rfl) ?_
            refine tk_getP (D := (dC, dI)) (ci := 12) (v := .int v_27) (C := RX12) (T := TX12) (N := 56) hx hb hU inlX12 hown hK hP mo0 hfo_126 rfl 26 (by decide) (hU _ wd_906) (fun _ h9 => h9) rfl dX12_completes_74 ?_
            refine lv_icmp_ne (tgt := 84) hx hb dX12_completes_77 (by decide) (fun c_133 => ?_) (fun c_133 => ?_)
            · skip
              rw [← Int32.toInt_inj] at c_133
              refine lv_iconst (v := 0) hx hb dX12_completes_84 (by decide) ?_
              refine tk_putP (D := (dC, dI)) (ci := 12) (v := .int 0) (ty := .boolean) (C := RX12) (T := TX12) (N := 56) hx hb hU inlX12 tyX12 tyX12_ok nmX12 hown hK hP hD hS mo0 hfo_126 rfl 27 (by decide) (hU _ wd_873) (fun _ h9 => h9) rfl (by decide +kernel) rfl rfl (Nat.le_of_ble_eq_true rfl) dX12_completes_85 (fun H locs hP hD hS => ?_)
              have fa_134 := fu12_27 (y := 0) fa_127 (by decide)
              obtain ⟨f_136, ef_136⟩ : ∃ y : Nat → va_E, y = va_up f_122 o0 (.inr (12, [.ref a_1, .ref a_2, .ref a_3, .int v_4, .ref a_5, .int v_6, .int v_7, .int v_8, .int v_9, .int v_10, .int v_11, .int v_12, .int v_13, .int v_14, .int v_15, .ref a_16, .ref a_17, .ref a_18, .ref a_19, .ref a_20, .ref a_21, .ref a_22, .ref a_23, .int v_24, .int v_25, .int v_26, .int v_27, .int 0, .ref a_29, .int v_124, .ref a_31, .ref a_32, .int v_125, .int v_34, .ref a_35, .int v_36, .ref a_37, .ref a_38, .int v_39, .int v_40, .ref a_41, .ref a_42, .ref a_43, .int v_44, .ref a_45, .ref a_46, .ref a_47, .ref a_48, .ref a_49, .ref a_50, .ref a_51, .ref a_52, .ref a_53, .int v_54, .int v_55, .ref a_56])) := ⟨_, rfl⟩
              have hP : va_P (dC, dI) vwCl (va_pl L f_136) H := by rw [ef_136]; exact hP
              have hD : va_D (fun q => q ∈ L) (va_pl L f_136) := by rw [ef_136]; exact hD
              have hG : GI (okc cI cL cZ cR cG cH L kd) kd L f_136 := by rw [ef_136]; exact hG.set o0 (mk_12 ko0 (fo12 fa_134))
              have hfo_137 : f_136 a_21 = .inl (cI, 20, .inl g_131) := by rw [ef_136, up_ne (kd_ne ko0 ka_21 (by decide))]; exact hfo_130
              have hfr0 : ∀ b, kd b ≠ 12 → kd b ≠ 591 → kd b ≠ 592 → kd b ≠ 593 → kd b ≠ 603 → f_136 b = f b := fun b q12 q591 q592 q593 q603 => (congrFun ef_136 b).trans ((up_ne (fun e9 => q12 (by rw [e9]; exact ko0))).trans (hfr0 b q12 q591 q592 q593 q603))
              have hrA12 : ∀ b, kd b = 12 → ∀ j, fldR (f_136 b) j = fldR (f b) j := fun b kb j => ((congrArg (fun x => fldR x j) (congrFun ef_136 b)).trans (fra_up (fun j => by rw [hfo_126]; exact fr_set (k := 27) rfl rfl) j b)).trans (hrA12 b kb j)
              have hfA12 : ∀ b, kd b = 12 → ∀ j, j ≠ 27 → j ≠ 29 → j ≠ 32 → fldI (f_136 b) j = fldI (f b) j := fun b kb j n27 n29 n32 => ((congrArg (fun x => fldI x j) (congrFun ef_136 b)).trans (fia_up (fun h9 => by rw [hfo_126]; exact fi_set (k := 27) rfl h9) n27 b)).trans (hfA12 b kb j n27 n29 n32)
              have hT0 : srel kd 592 f_136 o0 := by rw [ef_136]; exact hT0.keep (fun b _ => fr_up (by rw [hfo_126]; rfl) b) (fun b _ => fk_up (by rw [hfo_126]; rfl) b) (fun b _ => fk_up (by rw [hfo_126]; rfl) b) (fun b q => up_ne (kd_ne ko0 q (by decide)))
              have hfo_138 : f_136 o0 = .inr (12, [.ref a_1, .ref a_2, .ref a_3, .int v_4, .ref a_5, .int v_6, .int v_7, .int v_8, .int v_9, .int v_10, .int v_11, .int v_12, .int v_13, .int v_14, .int v_15, .ref a_16, .ref a_17, .ref a_18, .ref a_19, .ref a_20, .ref a_21, .ref a_22, .ref a_23, .int v_24, .int v_25, .int v_26, .int v_27, .int 0, .ref a_29, .int v_124, .ref a_31, .ref a_32, .int v_125, .int v_34, .ref a_35, .int v_36, .ref a_37, .ref a_38, .int v_39, .int v_40, .ref a_41, .ref a_42, .ref a_43, .int v_44, .ref a_45, .ref a_46, .ref a_47, .ref a_48, .ref a_49, .ref a_50, .ref a_51, .ref a_52, .ref a_53, .int v_54, .int v_55, .ref a_56]) := by rw [ef_136]; exact up_self
              obtain ⟨x_139, ex_139⟩ : ∃ y : Int32, y_120 + 1 = y := ⟨_, rfl⟩
              have hx_139 : x_139.toInt = y_120.toInt + 1 := by rw [← ex_139, ad_I (by rw [ti_1]; omega) (by rw [ti_1]; omega), ti_1]
              have bx_139 : (1 ≤ x_139.toInt ∧ x_139.toInt ≤ 13) := by constructor <;> omega
              refine lv_iinc (v := x_139) (lv' := [(3, .int x_139), (0, .ref o0), (1, .int p1), (2, .int p2)]) hx hb dX12_completes_88 hl (k := 0) rfl ex_139 (by decide) rfl (fun ls hl => ?_)
              refine lv_goto (tgt := 54) hx hb dX12_completes_91 (by decide) ?_
              exact ih_hloop_119 x_139 (by constructor <;> omega) f_136 hG _ _ hP hS hD hfr0 hrA12 hfA12 hT0 v_124 (by rw [hfo_138]; rfl) (by omega) (by omega) (by omega) ls (lv_sub hl [0, 1, 2, 3] rfl)
            · skip
              rw [← Int32.toInt_inj] at c_133
              refine lv_iconst (v := 1) hx hb dX12_completes_80 (by decide) ?_
              refine lv_goto (tgt := 85) hx hb dX12_completes_81 (by decide) ?_
              refine tk_putP (D := (dC, dI)) (ci := 12) (v := .int 1) (ty := .boolean) (C := RX12) (T := TX12) (N := 56) hx hb hU inlX12 tyX12 tyX12_ok nmX12 hown hK hP hD hS mo0 hfo_126 rfl 27 (by decide) (hU _ wd_873) (fun _ h9 => h9) rfl (by decide +kernel) rfl rfl (Nat.le_of_ble_eq_true rfl) dX12_completes_85 (fun H locs hP hD hS => ?_)
              have fa_140 := fu12_27 (y := 1) fa_127 (by decide)
              obtain ⟨f_142, ef_142⟩ : ∃ y : Nat → va_E, y = va_up f_122 o0 (.inr (12, [.ref a_1, .ref a_2, .ref a_3, .int v_4, .ref a_5, .int v_6, .int v_7, .int v_8, .int v_9, .int v_10, .int v_11, .int v_12, .int v_13, .int v_14, .int v_15, .ref a_16, .ref a_17, .ref a_18, .ref a_19, .ref a_20, .ref a_21, .ref a_22, .ref a_23, .int v_24, .int v_25, .int v_26, .int v_27, .int 1, .ref a_29, .int v_124, .ref a_31, .ref a_32, .int v_125, .int v_34, .ref a_35, .int v_36, .ref a_37, .ref a_38, .int v_39, .int v_40, .ref a_41, .ref a_42, .ref a_43, .int v_44, .ref a_45, .ref a_46, .ref a_47, .ref a_48, .ref a_49, .ref a_50, .ref a_51, .ref a_52, .ref a_53, .int v_54, .int v_55, .ref a_56])) := ⟨_, rfl⟩
              have hP : va_P (dC, dI) vwCl (va_pl L f_142) H := by rw [ef_142]; exact hP
              have hD : va_D (fun q => q ∈ L) (va_pl L f_142) := by rw [ef_142]; exact hD
              have hG : GI (okc cI cL cZ cR cG cH L kd) kd L f_142 := by rw [ef_142]; exact hG.set o0 (mk_12 ko0 (fo12 fa_140))
              have hfo_143 : f_142 a_21 = .inl (cI, 20, .inl g_131) := by rw [ef_142, up_ne (kd_ne ko0 ka_21 (by decide))]; exact hfo_130
              have hfr0 : ∀ b, kd b ≠ 12 → kd b ≠ 591 → kd b ≠ 592 → kd b ≠ 593 → kd b ≠ 603 → f_142 b = f b := fun b q12 q591 q592 q593 q603 => (congrFun ef_142 b).trans ((up_ne (fun e9 => q12 (by rw [e9]; exact ko0))).trans (hfr0 b q12 q591 q592 q593 q603))
              have hrA12 : ∀ b, kd b = 12 → ∀ j, fldR (f_142 b) j = fldR (f b) j := fun b kb j => ((congrArg (fun x => fldR x j) (congrFun ef_142 b)).trans (fra_up (fun j => by rw [hfo_126]; exact fr_set (k := 27) rfl rfl) j b)).trans (hrA12 b kb j)
              have hfA12 : ∀ b, kd b = 12 → ∀ j, j ≠ 27 → j ≠ 29 → j ≠ 32 → fldI (f_142 b) j = fldI (f b) j := fun b kb j n27 n29 n32 => ((congrArg (fun x => fldI x j) (congrFun ef_142 b)).trans (fia_up (fun h9 => by rw [hfo_126]; exact fi_set (k := 27) rfl h9) n27 b)).trans (hfA12 b kb j n27 n29 n32)
              have hT0 : srel kd 592 f_142 o0 := by rw [ef_142]; exact hT0.keep (fun b _ => fr_up (by rw [hfo_126]; rfl) b) (fun b _ => fk_up (by rw [hfo_126]; rfl) b) (fun b _ => fk_up (by rw [hfo_126]; rfl) b) (fun b q => up_ne (kd_ne ko0 q (by decide)))
              have hfo_144 : f_142 o0 = .inr (12, [.ref a_1, .ref a_2, .ref a_3, .int v_4, .ref a_5, .int v_6, .int v_7, .int v_8, .int v_9, .int v_10, .int v_11, .int v_12, .int v_13, .int v_14, .int v_15, .ref a_16, .ref a_17, .ref a_18, .ref a_19, .ref a_20, .ref a_21, .ref a_22, .ref a_23, .int v_24, .int v_25, .int v_26, .int v_27, .int 1, .ref a_29, .int v_124, .ref a_31, .ref a_32, .int v_125, .int v_34, .ref a_35, .int v_36, .ref a_37, .ref a_38, .int v_39, .int v_40, .ref a_41, .ref a_42, .ref a_43, .int v_44, .ref a_45, .ref a_46, .ref a_47, .ref a_48, .ref a_49, .ref a_50, .ref a_51, .ref a_52, .ref a_53, .int v_54, .int v_55, .ref a_56]) := by rw [ef_142]; exact up_self
              obtain ⟨x_145, ex_145⟩ : ∃ y : Int32, y_120 + 1 = y := ⟨_, rfl⟩
              have hx_145 : x_145.toInt = y_120.toInt + 1 := by rw [← ex_145, ad_I (by rw [ti_1]; omega) (by rw [ti_1]; omega), ti_1]
              have bx_145 : (1 ≤ x_145.toInt ∧ x_145.toInt ≤ 13) := by constructor <;> omega
              refine lv_iinc (v := x_145) (lv' := [(3, .int x_145), (0, .ref o0), (1, .int p1), (2, .int p2)]) hx hb dX12_completes_88 hl (k := 0) rfl ex_145 (by decide) rfl (fun ls hl => ?_)
              refine lv_goto (tgt := 54) hx hb dX12_completes_91 (by decide) ?_
              exact ih_hloop_119 x_145 (by constructor <;> omega) f_142 hG _ _ hP hS hD hfr0 hrA12 hfA12 hT0 v_124 (by rw [hfo_144]; rfl) (by omega) (by omega) (by omega) ls (lv_sub hl [0, 1, 2, 3] rfl)
    exact hloop_119 14 0 (by decide) f hG _ _ hP hS hD hfr0 hrA12 hfA12 hT0 v_30 (by rw [hfo_57]; rfl) (by (try rw [ti_0]) <;> omega) (by (try rw [ti_0]) <;> omega) (by (try rw [ti_0]) <;> omega) ls hl
  rw [← Int32.toInt_inj, ti_0] at c_59
  rw [← Int32.toInt_inj, ti_1] at c_71
  rw [← Int32.toInt_inj, ti_2] at c_83
  rw [← Int32.toInt_inj, ti_3] at c_95
  refine lv_tableOut (tgt := 97) hx hb dX12_completes_4 (by omega) (by decide) ?_
  have hclc_146 : (0 ≤ p2.toInt ∧ p2.toInt ≤ 4) := by constructor <;> omega
  refine lv_aload_n hx hb dX12_completes_97 rfl (lv_at hl 0 rfl) ?_
  refine lv_iload_n hx hb dX12_completes_98 rfl (lv_at hl 1 rfl) ?_
  refine lv_iload_n hx hb dX12_completes_99 rfl (lv_at hl 2 rfl) ?_
  refine tk_VvP (As := [.int p1, .int p2]) (rest := []) (n := 2) hx hb hml hown hU hN hZ (s_X12_breaks_k12 l (dC, dI) cI cL cZ cR cG cH Z kd L f hG o0 mo0 ko0 p1 (by constructor <;> omega) p2 (by constructor <;> omega)) wd_926 wd_927 wd_928 wd_5 wd_929 (by decide +kernel) ⟨Nat.le_of_ble_eq_true rfl, Nat.le_of_ble_eq_true rfl⟩ hK hP hD hS mo0 hfo_57 12 rfl rfl rfl hl.1 rfl (Nat.le_of_ble_eq_true rfl) dX12_completes_100 ⟨Nat.le_of_ble_eq_true rfl, Nat.le_of_ble_eq_true rfl⟩ (fun f_148 H locs hw hP hD hS => ?_)
  obtain ⟨hG, hkc_149⟩ := hw
  have hfo_151 : f_148 o0 = .inr (12, [.ref a_1, .ref a_2, .ref a_3, .int v_4, .ref a_5, .int v_6, .int v_7, .int v_8, .int v_9, .int v_10, .int v_11, .int v_12, .int v_13, .int v_14, .int v_15, .ref a_16, .ref a_17, .ref a_18, .ref a_19, .ref a_20, .ref a_21, .ref a_22, .ref a_23, .int v_24, .int v_25, .int v_26, .int v_27, .int v_28, .ref a_29, .int v_30, .ref a_31, .ref a_32, .int v_33, .int v_34, .ref a_35, .int v_36, .ref a_37, .ref a_38, .int v_39, .int v_40, .ref a_41, .ref a_42, .ref a_43, .int v_44, .ref a_45, .ref a_46, .ref a_47, .ref a_48, .ref a_49, .ref a_50, .ref a_51, .ref a_52, .ref a_53, .int v_54, .int v_55, .ref a_56]) := by rw [hkc_149 o0 (by rw [ko0]; decide)]; exact hfo_57
  have hfr0 : ∀ b, kd b ≠ 12 → kd b ≠ 591 → kd b ≠ 592 → kd b ≠ 593 → kd b ≠ 603 → f_148 b = f b := fun b q12 q591 q592 q593 q603 => (hkc_149 b q603).trans (hfr0 b q12 q591 q592 q593 q603)
  have hrA12 : ∀ b, kd b = 12 → ∀ j, fldR (f_148 b) j = fldR (f b) j := fun b kb j => (congrArg (fun x => fldR x j) (hkc_149 b (by rw [kb]; decide))).trans (hrA12 b kb j)
  have hfA12 : ∀ b, kd b = 12 → ∀ j, j ≠ 27 → j ≠ 29 → j ≠ 32 → fldI (f_148 b) j = fldI (f b) j := fun b kb j n27 n29 n32 => (congrArg (fun x => fldI x j) (hkc_149 b (by rw [kb]; decide))).trans (hfA12 b kb j n27 n29 n32)
  have hT0 : srel kd 592 f_148 o0 := hT0.keep (fun b q => congrArg (fun x => fldR x 30) (hkc_149 b (by rw [q]; decide))) (fun b q => congrArg (fun x => fldI x 32) (hkc_149 b (by rw [q]; decide))) (fun b q => congrArg (fun x => fldI x 33) (hkc_149 b (by rw [q]; decide))) (fun b q => hkc_149 b (by rw [q]; decide))
  exact W.vret hx hb hr (fun t ht hW => ⟨⟨f_148, rfl, ⟨hG, hfr0, hrA12, hfA12, (by intro w25 z25 w27 z27 w29 z29 e25 e27 e29 d25 d27 d29; rw [hfo_57] at e25 e27 e29; rw [hfo_151] at d25 d27 d29; obtain rfl := Option.some.inj e25; obtain rfl := Option.some.inj d25; obtain rfl := Option.some.inj e27; obtain rfl := Option.some.inj d27; obtain rfl := Option.some.inj e29; obtain rfl := Option.some.inj d29; omega), hT0⟩, by rw [ht]; exact hP, va_K.moved hW.alike hK, pl_in hD⟩, hS.F ht⟩) hS.2.2 dX12_completes_103
