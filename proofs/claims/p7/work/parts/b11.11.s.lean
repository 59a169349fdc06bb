set_option maxHeartbeats 8000000 in
set_option maxRecDepth 100000 in
theorem s_X12_marks_k12 (l : Launch) (D : va_G) (cI cL cZ cR cG cH : ClassId) (Z : zT) (kd : Nat → Nat) (L : List Nat) (f : Nat → va_E) (hG : GI (okc cI cL cZ cR cG cH L kd) kd L f) (o0 : Nat) (mo0 : o0 ∈ L) (ko0 : kd o0 = 12) (p1 : Int32) (bp1 : (0 ≤ p1.toInt ∧ p1.toInt ≤ 4)) (hxtr0 : srel kd 592 f o0) : mPV l D cI cL cZ cR cG cH Z yX12_marks cX12_marks 3 none 1 23 [.ref o0, .int p1] L f (fun (f9 : Nat → va_E) => GI (okc cI cL cZ cR cG cH L kd) kd L f9 ∧ (∀ b, kd b ≠ 12 → kd b ≠ 592 → kd b ≠ 593 → f9 b = f b) ∧ (∀ b, kd b = 12 → ∀ j, fldR (f9 b) j = fldR (f b) j) ∧ (∀ b, kd b = 12 → ∀ j, j ≠ 32 → fldI (f9 b) j = fldI (f b) j) ∧ (srel kd 592 f9 o0)) := by
  obtain ⟨dC, dI⟩ := D
  refine Met.ofW (cc := cX12_marks) (maxL := 3) (ret := none) (by decide) rfl ?_
  intro p e s m args below meth c s₁ B hml hv
  obtain ⟨rfl, hP, hK, hD0, hN, hZ⟩ := hv
  have hx := B.exec
  have hb := B.bytes
  have hr := B.returns
  have hU : ∀ w ∈ wsU, w.before _ s = true := fun w h => atoms_spec (ws := wU yX12_marks cX12_marks 3 none) B.pre w (List.mem_cons_of_mem _ h)
  have hown : s.vm.findClass RX12 = some m.cls := findClass_of_methodNamed B.named
  have hlocks := B.notSynchronized
  have hD := pl_in hD0
  have hS : va_S (fun q => q ∈ L) s.heap s.heap [] := va_S.rf
  have hl := lv_entry ([.ref o0, .int p1]) (n := 3) (Nat.le_of_ble_eq_true rfl)
  rw [lg_entry_eq]
  generalize (lg_sl ([.ref o0, .int p1]) ++ List.replicate (3 - (lg_sl ([.ref o0, .int p1])).length) Slot.unset).toArray = ls at hl ⊢
  have hl : lv_has ls 3 [(0, .ref o0), (1, .int p1)] := hl
  have hfr0 : ∀ b, kd b ≠ 12 → kd b ≠ 592 → kd b ≠ 593 → f b = f b := fun _ _ _ _ => rfl
  have hrA12 : ∀ b, kd b = 12 → ∀ j, fldR (f b) j = fldR (f b) j := fun _ _ _ => rfl
  have hfA12 : ∀ b, kd b = 12 → ∀ j, j ≠ 32 → fldI (f b) j = fldI (f b) j := fun _ _ _ _ => rfl
  have hT0 := hxtr0
  obtain ⟨a_2, a_3, a_4, v_5, a_6, v_7, v_8, v_9, v_10, v_11, v_12, v_13, v_14, v_15, v_16, a_17, a_18, a_19, a_20, a_21, a_22, a_23, a_24, v_25, v_26, v_27, v_28, v_29, a_30, v_31, a_32, a_33, v_34, v_35, a_36, v_37, a_38, a_39, v_40, v_41, a_42, a_43, a_44, v_45, a_46, a_47, a_48, a_49, a_50, a_51, a_52, a_53, a_54, v_55, v_56, a_57, hfo_1, ⟨ma_2, ka_2⟩, ⟨ma_3, ka_3⟩, ⟨ma_4, ka_4⟩, bv_5, ⟨ma_6, ka_6⟩, bv_7, bv_8, bv_13, bv_14, bv_15, ⟨ma_17, ka_17⟩, ⟨ma_18, ka_18⟩, ⟨ma_19, ka_19⟩, ⟨ma_20, ka_20⟩, ⟨ma_21, ka_21⟩, ⟨ma_22, ka_22⟩, ⟨ma_23, ka_23⟩, ⟨ma_24, ka_24⟩, bv_25, bv_27, bv_29, ⟨ma_30, ka_30⟩, bv_31, ⟨ma_32, ka_32⟩, ⟨ma_33, ka_33⟩, bv_34, ⟨ma_36, ka_36⟩, bv_37, ⟨ma_38, ka_38⟩, ⟨ma_39, ka_39⟩, bv_40, ⟨ma_42, ka_42⟩, ⟨ma_43, ka_43⟩, ⟨ma_44, ka_44⟩, bv_45, ⟨ma_46, ka_46⟩, ⟨ma_47, ka_47⟩, ⟨ma_48, ka_48⟩, ⟨ma_49, ka_49⟩, ⟨ma_50, ka_50⟩, ⟨ma_51, ka_51⟩, ⟨ma_52, ka_52⟩, ⟨ma_53, ka_53⟩, ⟨ma_54, ka_54⟩, bv_55, ⟨ma_57, ka_57⟩⟩ := un_12 (hG _ mo0) ko0
  have bv_9 : ((-2147483648) ≤ v_9.toInt ∧ v_9.toInt ≤ 2147483647) := ⟨i32_lo _, i32_hi _⟩
  have bv_10 : ((-2147483648) ≤ v_10.toInt ∧ v_10.toInt ≤ 2147483647) := ⟨i32_lo _, i32_hi _⟩
  have bv_11 : ((-2147483648) ≤ v_11.toInt ∧ v_11.toInt ≤ 2147483647) := ⟨i32_lo _, i32_hi _⟩
  have bv_12 : ((-2147483648) ≤ v_12.toInt ∧ v_12.toInt ≤ 2147483647) := ⟨i32_lo _, i32_hi _⟩
  have bv_16 : ((-2147483648) ≤ v_16.toInt ∧ v_16.toInt ≤ 2147483647) := ⟨i32_lo _, i32_hi _⟩
  have bv_26 : ((-2147483648) ≤ v_26.toInt ∧ v_26.toInt ≤ 2147483647) := ⟨i32_lo _, i32_hi _⟩
  have bv_28 : ((-2147483648) ≤ v_28.toInt ∧ v_28.toInt ≤ 2147483647) := ⟨i32_lo _, i32_hi _⟩
  have bv_35 : ((-2147483648) ≤ v_35.toInt ∧ v_35.toInt ≤ 2147483647) := ⟨i32_lo _, i32_hi _⟩
  have bv_41 : ((-2147483648) ≤ v_41.toInt ∧ v_41.toInt ≤ 2147483647) := ⟨i32_lo _, i32_hi _⟩
  have bv_56 : ((-2147483648) ≤ v_56.toInt ∧ v_56.toInt ≤ 2147483647) := ⟨i32_lo _, i32_hi _⟩
  obtain ⟨g_59, hfo_58, hbg_59⟩ := un_592 (hG _ ma_32) ka_32
  have hqs := hT0
  obtain ⟨sa, sg, sc, sd, ⟨-, -⟩, s1, s2, ⟨s3, s4⟩, s5⟩ := hqs
  rw [hfo_1] at s1 s3 s4
  obtain rfl := Option.some.inj s1
  obtain rfl := Option.some.inj s3
  obtain rfl := Option.some.inj s4
  rw [hfo_58] at s2
  obtain rfl := Option.some.inj s2
  refine lv_aload_n hx hb dX12_marks_0 rfl (lv_at hl 0 rfl) ?_
  refine lv_iload_n hx hb dX12_marks_1 rfl (lv_at hl 1 rfl) ?_
  refine tk_ViP (As := [.int p1]) (rest := []) (n := 1) hx hb hml hown hU hN hZ (s_X12_numberOf_k12 l (dC, dI) cI cL cZ cR cG cH Z kd L f hG o0 mo0 ko0 p1 (by constructor <;> omega)) wd_922 wd_923 wd_924 wd_5 wd_925 (by decide +kernel) ⟨Nat.le_of_ble_eq_true rfl, Nat.le_of_ble_eq_true rfl⟩ hK hP hD hS mo0 hfo_1 12 rfl rfl rfl hl.1 rfl (Nat.le_of_ble_eq_true rfl) dX12_marks_2 ⟨Nat.le_of_ble_eq_true rfl, Nat.le_of_ble_eq_true rfl⟩ (fun x_60 f_61 H locs hw hP hD hS => ?_)
  obtain ⟨rfl, bx_60⟩ := hw
  refine lv_istore_n (lv' := [(2, .int x_60), (0, .ref o0), (1, .int p1)]) hx hb dX12_marks_5 rfl hl (by decide) rfl (fun ls hl => ?_)
  refine lv_aload_n hx hb dX12_marks_6 rfl (lv_at hl 1 rfl) ?_
  refine tk_getP (D := (dC, dI)) (ci := 12) (v := .ref a_32) (C := RX12) (T := TX12) (N := 56) hx hb hU inlX12 hown hK hP mo0 hfo_1 rfl 30 (by decide) (hU _ wd_184) (fun _ h9 => h9) rfl dX12_marks_7 ?_
  refine lv_iload_n hx hb dX12_marks_10 rfl (lv_at hl 0 rfl) ?_
  refine tk_ildP hx hb hK hP 0 ma_32 hfo_58 rfl (vp_in_iff.mpr (by constructor <;> omega)) dX12_marks_11 ?_
  refine lv_topi (fun x_63 ex_63 => ?_)
  have bx_63 : ((-2147483648) ≤ x_63.toInt ∧ x_63.toInt ≤ 2147483647) := ⟨i32_lo _, i32_hi _⟩
  refine lv_aload_n hx hb dX12_marks_12 rfl (lv_at hl 1 rfl) ?_
  refine tk_getP (D := (dC, dI)) (ci := 12) (v := .int v_35) (C := RX12) (T := TX12) (N := 56) hx hb hU inlX12 hown hK hP mo0 hfo_1 rfl 33 (by decide) (hU _ wd_920) (fun _ h9 => h9) rfl dX12_marks_13 ?_
  refine lv_icmp_ne (tgt := 20) hx hb dX12_marks_16 (by decide) (fun c_64 => ?_) (fun c_64 => ?_)
  · skip
    rw [← Int32.toInt_inj] at c_64
    have hne : g_59 (Int32.toNatClampNeg x_60) ≠ v_35 := fun q => by rw [← ex_63] at q; have q2 : x_63.toInt = v_35.toInt := (by rw [q]); omega
    have hin : Int32.toNatClampNeg x_60 < 6561 := by have hc9 := cl_I (i := x_60) (by omega); omega
    have hlt := ctE_lt hin hne
    have hclc_65 : (0 ≤ v_34.toInt ∧ v_34.toInt ≤ 6560) := by constructor <;> omega
    refine lv_aload_n hx hb dX12_marks_20 rfl (lv_at hl 1 rfl) ?_
    refine tk_getP (D := (dC, dI)) (ci := 12) (v := .ref a_32) (C := RX12) (T := TX12) (N := 56) hx hb hU inlX12 hown hK hP mo0 hfo_1 rfl 30 (by decide) (hU _ wd_184) (fun _ h9 => h9) rfl dX12_marks_21 ?_
    refine lv_iload_n hx hb dX12_marks_24 rfl (lv_at hl 0 rfl) ?_
    refine lv_aload_n hx hb dX12_marks_25 rfl (lv_at hl 1 rfl) ?_
    refine tk_getP (D := (dC, dI)) (ci := 12) (v := .int v_35) (C := RX12) (T := TX12) (N := 56) hx hb hU inlX12 hown hK hP mo0 hfo_1 rfl 33 (by decide) (hU _ wd_920) (fun _ h9 => h9) rfl dX12_marks_26 ?_
    refine tk_istP hx hb hK hP hD hS 0 ma_32 hfo_58 rfl (vp_in_iff.mpr (by constructor <;> omega)) dX12_marks_29 (fun H locs hP hD hS => ?_)
    obtain ⟨g_66, eqg_66⟩ : ∃ y : Nat → Int32, y = upd g_59 (Int32.toNatClampNeg x_60) v_35 := ⟨_, rfl⟩
    rw [← eqg_66] at hP hD
    have hbg_66 : ∀ j, (-2147483648) ≤ (g_66 j).toInt ∧ (g_66 j).toInt ≤ 2147483647 := by rw [eqg_66]; exact okI_up hbg_59 ⟨i32_lo _, i32_hi _⟩ _
    obtain ⟨f_68, ef_68⟩ : ∃ y : Nat → va_E, y = va_up f a_32 (.inl (cI, 6561, .inl g_66)) := ⟨_, rfl⟩
    have hP : va_P (dC, dI) vwCl (va_pl L f_68) H := by rw [ef_68]; exact hP
    have hD : va_D (fun q => q ∈ L) (va_pl L f_68) := by rw [ef_68]; exact hD
    have hG : GI (okc cI cL cZ cR cG cH L kd) kd L f_68 := by rw [ef_68]; exact hG.set a_32 (mk_592 ka_32 ⟨_, rfl, hbg_66⟩)
    have hfo_69 : f_68 o0 = .inr (12, [.ref a_2, .ref a_3, .ref a_4, .int v_5, .ref a_6, .int v_7, .int v_8, .int v_9, .int v_10, .int v_11, .int v_12, .int v_13, .int v_14, .int v_15, .int v_16, .ref a_17, .ref a_18, .ref a_19, .ref a_20, .ref a_21, .ref a_22, .ref a_23, .ref a_24, .int v_25, .int v_26, .int v_27, .int v_28, .int v_29, .ref a_30, .int v_31, .ref a_32, .ref a_33, .int v_34, .int v_35, .ref a_36, .int v_37, .ref a_38, .ref a_39, .int v_40, .int v_41, .ref a_42, .ref a_43, .ref a_44, .int v_45, .ref a_46, .ref a_47, .ref a_48, .ref a_49, .ref a_50, .ref a_51, .ref a_52, .ref a_53, .ref a_54, .int v_55, .int v_56, .ref a_57]) := by rw [ef_68, up_ne (kd_ne ka_32 ko0 (by decide))]; exact hfo_1
    have hfr0 : ∀ b, kd b ≠ 12 → kd b ≠ 592 → kd b ≠ 593 → f_68 b = f b := fun b q12 q592 q593 => (congrFun ef_68 b).trans ((up_ne (fun e9 => q592 (by rw [e9]; exact ka_32))).trans (hfr0 b q12 q592 q593))
    have hrA12 : ∀ b, kd b = 12 → ∀ j, fldR (f_68 b) j = fldR (f b) j := fun b kb j => (congrArg (fun x => fldR x j) ((congrFun ef_68 b).trans (up_ne (kd_ne ka_32 kb (by decide))))).trans (hrA12 b kb j)
    have hfA12 : ∀ b, kd b = 12 → ∀ j, j ≠ 32 → fldI (f_68 b) j = fldI (f b) j := fun b kb j n32 => (congrArg (fun x => fldI x j) ((congrFun ef_68 b).trans (up_ne (kd_ne ka_32 kb (by decide))))).trans (hfA12 b kb j n32)
    have hfo_70 : f_68 a_32 = .inl (cI, 6561, .inl g_66) := by rw [ef_68]; exact up_self
    refine lv_aload_n hx hb dX12_marks_30 rfl (lv_at hl 1 rfl) ?_
    refine tk_getP (D := (dC, dI)) (ci := 12) (v := .ref a_33) (C := RX12) (T := TX12) (N := 56) hx hb hU inlX12 hown hK hP mo0 hfo_69 rfl 31 (by decide) (hU _ wd_185) (fun _ h9 => h9) rfl dX12_marks_31 ?_
    refine lv_aload_n hx hb dX12_marks_34 rfl (lv_at hl 1 rfl) ?_
    refine tk_getP (D := (dC, dI)) (ci := 12) (v := .int v_34) (C := RX12) (T := TX12) (N := 56) hx hb hU inlX12 hown hK hP mo0 hfo_69 rfl 32 (by decide) (hU _ wd_921) (fun _ h9 => h9) rfl dX12_marks_35 ?_
    refine lv_iload_n hx hb dX12_marks_38 rfl (lv_at hl 0 rfl) ?_
    obtain ⟨g_72, hfo_71, hbg_72⟩ := un_593 (hG _ ma_33) ka_33
    refine tk_istP hx hb hK hP hD hS 0 ma_33 hfo_71 rfl (vp_in_iff.mpr (by constructor <;> omega)) dX12_marks_39 (fun H locs hP hD hS => ?_)
    obtain ⟨g_73, eqg_73⟩ : ∃ y : Nat → Int32, y = upd g_72 (Int32.toNatClampNeg v_34) x_60 := ⟨_, rfl⟩
    rw [← eqg_73] at hP hD
    have hbg_73 : ∀ j, 0 ≤ (g_73 j).toInt ∧ (g_73 j).toInt ≤ 6560 := by rw [eqg_73]; exact okI_up hbg_72 (by constructor <;> omega) _
    obtain ⟨f_75, ef_75⟩ : ∃ y : Nat → va_E, y = va_up f_68 a_33 (.inl (cI, 6561, .inl g_73)) := ⟨_, rfl⟩
    have hP : va_P (dC, dI) vwCl (va_pl L f_75) H := by rw [ef_75]; exact hP
    have hD : va_D (fun q => q ∈ L) (va_pl L f_75) := by rw [ef_75]; exact hD
    have hG : GI (okc cI cL cZ cR cG cH L kd) kd L f_75 := by rw [ef_75]; exact hG.set a_33 (mk_593 ka_33 ⟨_, rfl, hbg_73⟩)
    have hfo_76 : f_75 o0 = .inr (12, [.ref a_2, .ref a_3, .ref a_4, .int v_5, .ref a_6, .int v_7, .int v_8, .int v_9, .int v_10, .int v_11, .int v_12, .int v_13, .int v_14, .int v_15, .int v_16, .ref a_17, .ref a_18, .ref a_19, .ref a_20, .ref a_21, .ref a_22, .ref a_23, .ref a_24, .int v_25, .int v_26, .int v_27, .int v_28, .int v_29, .ref a_30, .int v_31, .ref a_32, .ref a_33, .int v_34, .int v_35, .ref a_36, .int v_37, .ref a_38, .ref a_39, .int v_40, .int v_41, .ref a_42, .ref a_43, .ref a_44, .int v_45, .ref a_46, .ref a_47, .ref a_48, .ref a_49, .ref a_50, .ref a_51, .ref a_52, .ref a_53, .ref a_54, .int v_55, .int v_56, .ref a_57]) := by rw [ef_75, up_ne (kd_ne ka_33 ko0 (by decide))]; exact hfo_69
    have hfo_77 : f_75 a_32 = .inl (cI, 6561, .inl g_66) := by rw [ef_75, up_ne (kd_ne ka_33 ka_32 (by decide))]; exact hfo_70
    have hfr0 : ∀ b, kd b ≠ 12 → kd b ≠ 592 → kd b ≠ 593 → f_75 b = f b := fun b q12 q592 q593 => (congrFun ef_75 b).trans ((up_ne (fun e9 => q593 (by rw [e9]; exact ka_33))).trans (hfr0 b q12 q592 q593))
    have hrA12 : ∀ b, kd b = 12 → ∀ j, fldR (f_75 b) j = fldR (f b) j := fun b kb j => (congrArg (fun x => fldR x j) ((congrFun ef_75 b).trans (up_ne (kd_ne ka_33 kb (by decide))))).trans (hrA12 b kb j)
    have hfA12 : ∀ b, kd b = 12 → ∀ j, j ≠ 32 → fldI (f_75 b) j = fldI (f b) j := fun b kb j n32 => (congrArg (fun x => fldI x j) ((congrFun ef_75 b).trans (up_ne (kd_ne ka_33 kb (by decide))))).trans (hfA12 b kb j n32)
    have hfo_78 : f_75 a_33 = .inl (cI, 6561, .inl g_73) := by rw [ef_75]; exact up_self
    refine lv_aload_n hx hb dX12_marks_40 rfl (lv_at hl 1 rfl) ?_
    refine lv_dup hx hb dX12_marks_41 rfl ?_
    refine tk_getP (D := (dC, dI)) (ci := 12) (v := .int v_34) (C := RX12) (T := TX12) (N := 56) hx hb hU inlX12 hown hK hP mo0 hfo_76 rfl 32 (by decide) (hU _ wd_921) (fun _ h9 => h9) rfl dX12_marks_42 ?_
    refine lv_iconst (v := 1) hx hb dX12_marks_45 (by decide) ?_
    refine lv_iadd hx hb dX12_marks_46 ?_
    refine lv_topi (fun x_79 ex_79 => ?_)
    have hx_79 : x_79.toInt = v_34.toInt + 1 := by rw [ex_79, ad_I (by rw [ti_1]; omega) (by rw [ti_1]; omega), ti_1]
    have bx_79 : (1 ≤ x_79.toInt ∧ x_79.toInt ≤ 6561) := by constructor <;> omega
    refine tk_putP (D := (dC, dI)) (ci := 12) (v := .int x_79) (ty := .int) (C := RX12) (T := TX12) (N := 56) hx hb hU inlX12 tyX12 tyX12_ok nmX12 hown hK hP hD hS mo0 hfo_76 rfl 32 (by decide) (hU _ wd_921) (fun _ h9 => h9) rfl (by decide +kernel) rfl rfl (Nat.le_of_ble_eq_true rfl) dX12_marks_47 (fun H locs hP hD hS => ?_)
    obtain ⟨f_81, ef_81⟩ : ∃ y : Nat → va_E, y = va_up f_75 o0 (.inr (12, [.ref a_2, .ref a_3, .ref a_4, .int v_5, .ref a_6, .int v_7, .int v_8, .int v_9, .int v_10, .int v_11, .int v_12, .int v_13, .int v_14, .int v_15, .int v_16, .ref a_17, .ref a_18, .ref a_19, .ref a_20, .ref a_21, .ref a_22, .ref a_23, .ref a_24, .int v_25, .int v_26, .int v_27, .int v_28, .int v_29, .ref a_30, .int v_31, .ref a_32, .ref a_33, .int x_79, .int v_35, .ref a_36, .int v_37, .ref a_38, .ref a_39, .int v_40, .int v_41, .ref a_42, .ref a_43, .ref a_44, .int v_45, .ref a_46, .ref a_47, .ref a_48, .ref a_49, .ref a_50, .ref a_51, .ref a_52, .ref a_53, .ref a_54, .int v_55, .int v_56, .ref a_57])) := ⟨_, rfl⟩
    have hP : va_P (dC, dI) vwCl (va_pl L f_81) H := by rw [ef_81]; exact hP
    have hD : va_D (fun q => q ∈ L) (va_pl L f_81) := by rw [ef_81]; exact hD
    have hG : GI (okc cI cL cZ cR cG cH L kd) kd L f_81 := by rw [ef_81]; exact hG.set o0 (mk_12 ko0 ⟨a_2, a_3, a_4, v_5, a_6, v_7, v_8, v_9, v_10, v_11, v_12, v_13, v_14, v_15, v_16, a_17, a_18, a_19, a_20, a_21, a_22, a_23, a_24, v_25, v_26, v_27, v_28, v_29, a_30, v_31, a_32, a_33, x_79, v_35, a_36, v_37, a_38, a_39, v_40, v_41, a_42, a_43, a_44, v_45, a_46, a_47, a_48, a_49, a_50, a_51, a_52, a_53, a_54, v_55, v_56, a_57, rfl, ⟨ma_2, ka_2⟩, ⟨ma_3, ka_3⟩, ⟨ma_4, ka_4⟩, (by constructor <;> omega), ⟨ma_6, ka_6⟩, (by constructor <;> omega), (by constructor <;> omega), (by constructor <;> omega), (by constructor <;> omega), (by constructor <;> omega), ⟨ma_17, ka_17⟩, ⟨ma_18, ka_18⟩, ⟨ma_19, ka_19⟩, ⟨ma_20, ka_20⟩, ⟨ma_21, ka_21⟩, ⟨ma_22, ka_22⟩, ⟨ma_23, ka_23⟩, ⟨ma_24, ka_24⟩, (by constructor <;> omega), (by constructor <;> omega), (by constructor <;> omega), ⟨ma_30, ka_30⟩, (by constructor <;> omega), ⟨ma_32, ka_32⟩, ⟨ma_33, ka_33⟩, (by constructor <;> omega), ⟨ma_36, ka_36⟩, (by constructor <;> omega), ⟨ma_38, ka_38⟩, ⟨ma_39, ka_39⟩, (by constructor <;> omega), ⟨ma_42, ka_42⟩, ⟨ma_43, ka_43⟩, ⟨ma_44, ka_44⟩, (by constructor <;> omega), ⟨ma_46, ka_46⟩, ⟨ma_47, ka_47⟩, ⟨ma_48, ka_48⟩, ⟨ma_49, ka_49⟩, ⟨ma_50, ka_50⟩, ⟨ma_51, ka_51⟩, ⟨ma_52, ka_52⟩, ⟨ma_53, ka_53⟩, ⟨ma_54, ka_54⟩, (by constructor <;> omega), ⟨ma_57, ka_57⟩⟩)
    have hfo_82 : f_81 a_32 = .inl (cI, 6561, .inl g_66) := by rw [ef_81, up_ne (kd_ne ko0 ka_32 (by decide))]; exact hfo_77
    have hfo_83 : f_81 a_33 = .inl (cI, 6561, .inl g_73) := by rw [ef_81, up_ne (kd_ne ko0 ka_33 (by decide))]; exact hfo_78
    have hfr0 : ∀ b, kd b ≠ 12 → kd b ≠ 592 → kd b ≠ 593 → f_81 b = f b := fun b q12 q592 q593 => (congrFun ef_81 b).trans ((up_ne (fun e9 => q12 (by rw [e9]; exact ko0))).trans (hfr0 b q12 q592 q593))
    have hrA12 : ∀ b, kd b = 12 → ∀ j, fldR (f_81 b) j = fldR (f b) j := fun b kb j => ((congrArg (fun x => fldR x j) (congrFun ef_81 b)).trans (fra_up (fun j => by rw [hfo_76]; exact fr_set (k := 32) rfl rfl j) j b)).trans (hrA12 b kb j)
    have hfA12 : ∀ b, kd b = 12 → ∀ j, j ≠ 32 → fldI (f_81 b) j = fldI (f b) j := fun b kb j n32 => ((congrArg (fun x => fldI x j) (congrFun ef_81 b)).trans (fia_up (fun h9 => by rw [hfo_76]; exact fi_set (k := 32) rfl h9) n32 b)).trans (hfA12 b kb j n32)
    have hfo_84 : f_81 o0 = .inr (12, [.ref a_2, .ref a_3, .ref a_4, .int v_5, .ref a_6, .int v_7, .int v_8, .int v_9, .int v_10, .int v_11, .int v_12, .int v_13, .int v_14, .int v_15, .int v_16, .ref a_17, .ref a_18, .ref a_19, .ref a_20, .ref a_21, .ref a_22, .ref a_23, .ref a_24, .int v_25, .int v_26, .int v_27, .int v_28, .int v_29, .ref a_30, .int v_31, .ref a_32, .ref a_33, .int x_79, .int v_35, .ref a_36, .int v_37, .ref a_38, .ref a_39, .int v_40, .int v_41, .ref a_42, .ref a_43, .ref a_44, .int v_45, .ref a_46, .ref a_47, .ref a_48, .ref a_49, .ref a_50, .ref a_51, .ref a_52, .ref a_53, .ref a_54, .int v_55, .int v_56, .ref a_57]) := by rw [ef_81]; exact up_self
    exact W.vret hx hb hr (fun t ht hW => ⟨⟨f_81, rfl, ⟨hG, hfr0, hrA12, hfA12, ⟨a_32, g_66, x_79, v_35, ⟨ko0, ka_32⟩, (by rw [hfo_84]; rfl), (by rw [hfo_82]; rfl), (by rw [hfo_84]; exact ⟨rfl, rfl⟩), (by rw [eqg_66, ctE_up hin hne]; omega)⟩⟩, by rw [ht]; exact hP, va_K.moved hW.alike hK, pl_in hD⟩, hS.F ht⟩) hS.2.2 dX12_marks_50
  · skip
    rw [← Int32.toInt_inj] at c_64
    exact W.vret hx hb hr (fun t ht hW => ⟨⟨f, rfl, ⟨hG, hfr0, hrA12, hfA12, hT0⟩, by rw [ht]; exact hP, va_K.moved hW.alike hK, pl_in hD⟩, hS.F ht⟩) hS.2.2 dX12_marks_19
set_option maxHeartbeats 8000000 in
set_option maxRecDepth 100000 in
theorem s_X12_breaks_k12 (l : Launch) (D : va_G) (cI cL cZ cR cG cH : ClassId) (Z : zT) (kd : Nat → Nat) (L : List Nat) (f : Nat → va_E) (hG : GI (okc cI cL cZ cR cG cH L kd) kd L f) (o0 : Nat) (mo0 : o0 ∈ L) (ko0 : kd o0 = 12) (p1 : Int32) (bp1 : (0 ≤ p1.toInt ∧ p1.toInt ≤ 13)) (p2 : Int32) (bp2 : (0 ≤ p2.toInt ∧ p2.toInt ≤ 4)) : mPV l D cI cL cZ cR cG cH Z yX12_breaks cX12_breaks 6 none 6 157 [.ref o0, .int p1, .int p2] L f (fun (f9 : Nat → va_E) => GI (okc cI cL cZ cR cG cH L kd) kd L f9 ∧ (∀ b, kd b ≠ 603 → f9 b = f b)) := by
  obtain ⟨dC, dI⟩ := D
  refine Met.ofW (cc := cX12_breaks) (maxL := 6) (ret := none) (by decide) rfl ?_
  intro p e s m args below meth c s₁ B hml hv
  obtain ⟨rfl, hP, hK, hD0, hN, hZ⟩ := hv
  have hx := B.exec
  have hb := B.bytes
  have hr := B.returns
  have hU : ∀ w ∈ wsU, w.before _ s = true := fun w h => atoms_spec (ws := wU yX12_breaks cX12_breaks 6 none) B.pre w (List.mem_cons_of_mem _ h)
  have hown : s.vm.findClass RX12 = some m.cls := findClass_of_methodNamed B.named
  have hlocks := B.notSynchronized
  have hD := pl_in hD0
  have hS : va_S (fun q => q ∈ L) s.heap s.heap [] := va_S.rf
  have hl := lv_entry ([.ref o0, .int p1, .int p2]) (n := 6) (Nat.le_of_ble_eq_true rfl)
  rw [lg_entry_eq]
  generalize (lg_sl ([.ref o0, .int p1, .int p2]) ++ List.replicate (6 - (lg_sl ([.ref o0, .int p1, .int p2])).length) Slot.unset).toArray = ls at hl ⊢
  have hl : lv_has ls 6 [(0, .ref o0), (1, .int p1), (2, .int p2)] := hl
  have hfr0 : ∀ b, kd b ≠ 603 → f b = f b := fun _ _ => rfl
  refine lv_aload_n hx hb dX12_breaks_0 rfl (lv_at hl 0 rfl) ?_
  obtain ⟨a_2, a_3, a_4, v_5, a_6, v_7, v_8, v_9, v_10, v_11, v_12, v_13, v_14, v_15, v_16, a_17, a_18, a_19, a_20, a_21, a_22, a_23, a_24, v_25, v_26, v_27, v_28, v_29, a_30, v_31, a_32, a_33, v_34, v_35, a_36, v_37, a_38, a_39, v_40, v_41, a_42, a_43, a_44, v_45, a_46, a_47, a_48, a_49, a_50, a_51, a_52, a_53, a_54, v_55, v_56, a_57, hfo_1, ⟨ma_2, ka_2⟩, ⟨ma_3, ka_3⟩, ⟨ma_4, ka_4⟩, bv_5, ⟨ma_6, ka_6⟩, bv_7, bv_8, bv_13, bv_14, bv_15, ⟨ma_17, ka_17⟩, ⟨ma_18, ka_18⟩, ⟨ma_19, ka_19⟩, ⟨ma_20, ka_20⟩, ⟨ma_21, ka_21⟩, ⟨ma_22, ka_22⟩, ⟨ma_23, ka_23⟩, ⟨ma_24, ka_24⟩, bv_25, bv_27, bv_29, ⟨ma_30, ka_30⟩, bv_31, ⟨ma_32, ka_32⟩, ⟨ma_33, ka_33⟩, bv_34, ⟨ma_36, ka_36⟩, bv_37, ⟨ma_38, ka_38⟩, ⟨ma_39, ka_39⟩, bv_40, ⟨ma_42, ka_42⟩, ⟨ma_43, ka_43⟩, ⟨ma_44, ka_44⟩, bv_45, ⟨ma_46, ka_46⟩, ⟨ma_47, ka_47⟩, ⟨ma_48, ka_48⟩, ⟨ma_49, ka_49⟩, ⟨ma_50, ka_50⟩, ⟨ma_51, ka_51⟩, ⟨ma_52, ka_52⟩, ⟨ma_53, ka_53⟩, ⟨ma_54, ka_54⟩, bv_55, ⟨ma_57, ka_57⟩⟩ := un_12 (hG _ mo0) ko0
  have bv_9 : ((-2147483648) ≤ v_9.toInt ∧ v_9.toInt ≤ 2147483647) := ⟨i32_lo _, i32_hi _⟩
  have bv_10 : ((-2147483648) ≤ v_10.toInt ∧ v_10.toInt ≤ 2147483647) := ⟨i32_lo _, i32_hi _⟩
  have bv_11 : ((-2147483648) ≤ v_11.toInt ∧ v_11.toInt ≤ 2147483647) := ⟨i32_lo _, i32_hi _⟩
  have bv_12 : ((-2147483648) ≤ v_12.toInt ∧ v_12.toInt ≤ 2147483647) := ⟨i32_lo _, i32_hi _⟩
  have bv_16 : ((-2147483648) ≤ v_16.toInt ∧ v_16.toInt ≤ 2147483647) := ⟨i32_lo _, i32_hi _⟩
  have bv_26 : ((-2147483648) ≤ v_26.toInt ∧ v_26.toInt ≤ 2147483647) := ⟨i32_lo _, i32_hi _⟩
  have bv_28 : ((-2147483648) ≤ v_28.toInt ∧ v_28.toInt ≤ 2147483647) := ⟨i32_lo _, i32_hi _⟩
  have bv_35 : ((-2147483648) ≤ v_35.toInt ∧ v_35.toInt ≤ 2147483647) := ⟨i32_lo _, i32_hi _⟩
  have bv_41 : ((-2147483648) ≤ v_41.toInt ∧ v_41.toInt ≤ 2147483647) := ⟨i32_lo _, i32_hi _⟩
  have bv_56 : ((-2147483648) ≤ v_56.toInt ∧ v_56.toInt ≤ 2147483647) := ⟨i32_lo _, i32_hi _⟩
  refine tk_getP (D := (dC, dI)) (ci := 12) (v := .ref a_32) (C := RX12) (T := TX12) (N := 56) hx hb hU inlX12 hown hK hP mo0 hfo_1 rfl 30 (by decide) (hU _ wd_184) (fun _ h9 => h9) rfl dX12_breaks_1 ?_
  refine lv_aload_n hx hb dX12_breaks_4 rfl (lv_at hl 0 rfl) ?_
  refine lv_iload_n hx hb dX12_breaks_5 rfl (lv_at hl 2 rfl) ?_
  refine tk_ViP (As := [.int p2]) (rest := [.ref a_32]) (n := 1) hx hb hml hown hU hN hZ (s_X12_numberOf_k12 l (dC, dI) cI cL cZ cR cG cH Z kd L f hG o0 mo0 ko0 p2 (by constructor <;> omega)) wd_922 wd_923 wd_924 wd_5 wd_925 (by decide +kernel) ⟨Nat.le_of_ble_eq_true rfl, Nat.le_of_ble_eq_true rfl⟩ hK hP hD hS mo0 hfo_1 12 rfl rfl rfl hl.1 rfl (Nat.le_of_ble_eq_true rfl) dX12_breaks_6 ⟨Nat.le_of_ble_eq_true rfl, Nat.le_of_ble_eq_true rfl⟩ (fun x_58 f_59 H locs hw hP hD hS => ?_)
  obtain ⟨rfl, bx_58⟩ := hw
  obtain ⟨g_62, hfo_61, hbg_62⟩ := un_592 (hG _ ma_32) ka_32
  refine tk_ildP hx hb hK hP 0 ma_32 hfo_61 rfl (vp_in_iff.mpr (by constructor <;> omega)) dX12_breaks_9 ?_
  refine lv_topi (fun x_63 ex_63 => ?_)
  have bx_63 : ((-2147483648) ≤ x_63.toInt ∧ x_63.toInt ≤ 2147483647) := ⟨i32_lo _, i32_hi _⟩
  refine lv_aload_n hx hb dX12_breaks_10 rfl (lv_at hl 0 rfl) ?_
  refine tk_getP (D := (dC, dI)) (ci := 12) (v := .int v_35) (C := RX12) (T := TX12) (N := 56) hx hb hU inlX12 hown hK hP mo0 hfo_1 rfl 33 (by decide) (hU _ wd_920) (fun _ h9 => h9) rfl dX12_breaks_11 ?_
  refine lv_icmp_ne (tgt := 18) hx hb dX12_breaks_14 (by decide) (fun c_64 => ?_) (fun c_64 => ?_)
  · skip
    rw [← Int32.toInt_inj] at c_64
    refine lv_iconst (v := 0) hx hb dX12_breaks_18 (by decide) ?_
    refine lv_istore_n (lv' := [(3, .int 0), (0, .ref o0), (1, .int p1), (2, .int p2)]) hx hb dX12_breaks_19 rfl hl (by decide) rfl (fun ls hl => ?_)
    refine lv_iconst (v := 0) hx hb dX12_breaks_20 (by decide) ?_
    refine lv_istore (lv' := [(4, .int 0), (3, .int 0), (0, .ref o0), (1, .int p1), (2, .int p2)]) hx hb dX12_breaks_21 hl (by decide) rfl (fun ls hl => ?_)
    have hloop_86 : ∀ (n : Nat), ∀ (y_87 : Int32), (0 ≤ y_87.toInt ∧ y_87.toInt ≤ 8) → ∀ (y_88 : Int32), ((-2147483648) ≤ y_88.toInt ∧ y_88.toInt ≤ 2147483647) → ∀ (H : Heap) (locs : List Loc), va_P (dC, dI) vwCl (va_pl L f) H → va_S (fun q => q ∈ L) s.heap H locs → 8 - y_87.toInt < (n : Int) → ∀ (ls : Array Slot), lv_has ls 6 [(4, .int y_87), (3, .int y_88), (0, .ref o0), (1, .int p1), (2, .int p2)] → W p l e (headSpec (wU yX12_breaks cX12_breaks 6 none) { frames := 6, cells := 0, slots := 0, locals := 157 }).room s m [.ref o0, .int p1, .int p2].toArray below meth c H locs 0 0 (MQ below (va_Qv (fun (f9 : Nat → va_E) => GI (okc cI cL cZ cR cG cH L kd) kd L f9 ∧ (∀ b, kd b ≠ 603 → f9 b = f b)) (qP (dC, dI) cI cL cZ cR cG cH L) (fun q => q ∈ L)) [.ref o0, .int p1, .int p2].toArray s 0 0 (fun q => q ∈ L)) (F0 m 23 ls []) := by
      intro n
      induction n with
      | zero => intro y_87 by_87 y_88 by_88 H locs hP hS hmuhloop_86 ls hl; exfalso; omega
      | succ n ih_hloop_86 =>
        intro y_87 by_87 y_88 by_88 H locs hP hS hmuhloop_86 ls hl
        refine lv_iload hx hb dX12_breaks_23 (lv_at hl 0 rfl) ?_
        refine lv_aload_n hx hb dX12_breaks_25 rfl (lv_at hl 2 rfl) ?_
        refine tk_getP (D := (dC, dI)) (ci := 12) (v := .ref a_2) (C := RX12) (T := TX12) (N := 56) hx hb hU inlX12 hown hK hP mo0 hfo_1 rfl 0 (by decide) (hU _ wd_169) (fun _ h9 => h9) rfl dX12_breaks_26 ?_
        refine lv_bipush (v := 17) hx hb dX12_breaks_29 (by decide) ?_
        obtain ⟨g_91, hfo_90, hbg_91⟩ := un_575 (hG _ ma_2) ka_2
        refine tk_ildP hx hb hK hP 0 ma_2 hfo_90 rfl (vp_in_nI (n := 17) (by decide) (by decide)) dX12_breaks_31 ?_
        refine lv_topi (fun x_92 ex_92 => ?_)
        have bx_92 : (0 ≤ x_92.toInt ∧ x_92.toInt ≤ 8) := by rw [ex_92]; exact hbg_91.2.2.1 _ (by decide) (by decide) (by decide)
        refine lv_icmp_ge (tgt := 104) hx hb dX12_breaks_32 (by decide) (fun c_93 => ?_) (fun c_93 => ?_)
        · skip
          rw [Int32.le_iff_toInt_le] at c_93
          refine lv_iconst (v := 0) hx hb dX12_breaks_104 (by decide) ?_
          refine lv_istore (lv' := [(4, .int 0), (3, .int y_88), (0, .ref o0), (1, .int p1), (2, .int p2)]) hx hb dX12_breaks_105 hl (by decide) rfl (fun ls hl => ?_)
          have hloop_115 : ∀ (n : Nat), ∀ (y_116 : Int32), (0 ≤ y_116.toInt ∧ y_116.toInt ≤ 256) → ∀ (f_118 : Nat → va_E), GI (okc cI cL cZ cR cG cH L kd) kd L f_118 → ∀ (H : Heap) (locs : List Loc), va_P (dC, dI) vwCl (va_pl L f_118) H → va_S (fun q => q ∈ L) s.heap H locs → va_D (fun q => q ∈ L) (va_pl L f_118) → (∀ b, kd b ≠ 603 → f_118 b = f b) → (f_118 o0 = .inr (12, [.ref a_2, .ref a_3, .ref a_4, .int v_5, .ref a_6, .int v_7, .int v_8, .int v_9, .int v_10, .int v_11, .int v_12, .int v_13, .int v_14, .int v_15, .int v_16, .ref a_17, .ref a_18, .ref a_19, .ref a_20, .ref a_21, .ref a_22, .ref a_23, .ref a_24, .int v_25, .int v_26, .int v_27, .int v_28, .int v_29, .ref a_30, .int v_31, .ref a_32, .ref a_33, .int v_34, .int v_35, .ref a_36, .int v_37, .ref a_38, .ref a_39, .int v_40, .int v_41, .ref a_42, .ref a_43, .ref a_44, .int v_45, .ref a_46, .ref a_47, .ref a_48, .ref a_49, .ref a_50, .ref a_51, .ref a_52, .ref a_53, .ref a_54, .int v_55, .int v_56, .ref a_57])) → (f_118 a_32 = .inl (cI, 6561, .inl g_62)) → (f_118 a_2 = .inl (cI, 1560, .inl g_91)) → 256 - y_116.toInt < (n : Int) → ∀ (ls : Array Slot), lv_has ls 6 [(4, .int y_116), (3, .int y_88), (0, .ref o0), (1, .int p1), (2, .int p2)] → W p l e (headSpec (wU yX12_breaks cX12_breaks 6 none) { frames := 6, cells := 0, slots := 0, locals := 157 }).room s m [.ref o0, .int p1, .int p2].toArray below meth c H locs 0 0 (MQ below (va_Qv (fun (f9 : Nat → va_E) => GI (okc cI cL cZ cR cG cH L kd) kd L f9 ∧ (∀ b, kd b ≠ 603 → f9 b = f b)) (qP (dC, dI) cI cL cZ cR cG cH L) (fun q => q ∈ L)) [.ref o0, .int p1, .int p2].toArray s 0 0 (fun q => q ∈ L)) (F0 m 107 ls []) := by
            intro n
            induction n with
            | zero => intro y_116 by_116 f_118 hG H locs hP hS hD hfr0 hfo_119 hfo_120 hfo_121 hmuhloop_115 ls hl; exfalso; omega
            | succ n ih_hloop_115 =>
              intro y_116 by_116 f_118 hG H locs hP hS hD hfr0 hfo_119 hfo_120 hfo_121 hmuhloop_115 ls hl
              refine lv_iload hx hb dX12_breaks_107 (lv_at hl 0 rfl) ?_
              refine lv_aload_n hx hb dX12_breaks_109 rfl (lv_at hl 2 rfl) ?_
              refine tk_getP (D := (dC, dI)) (ci := 12) (v := .ref a_2) (C := RX12) (T := TX12) (N := 56) hx hb hU inlX12 hown hK hP mo0 hfo_119 rfl 0 (by decide) (hU _ wd_169) (fun _ h9 => h9) rfl dX12_breaks_110 ?_
              refine lv_bipush (v := 40) hx hb dX12_breaks_113 (by decide) ?_
              refine tk_ildP hx hb hK hP 0 ma_2 hfo_121 rfl (vp_in_nI (n := 40) (by decide) (by decide)) dX12_breaks_115 ?_
              refine lv_topi (fun x_122 ex_122 => ?_)
              have bx_122 : (0 ≤ x_122.toInt ∧ x_122.toInt ≤ 255) := by rw [ex_122]; exact hbg_91.2.2.2.2.2.2.1 _ (by decide) (by decide) (by decide)
              refine lv_icmp_gt (tgt := 140) hx hb dX12_breaks_116 (by decide) (fun c_123 => ?_) (fun c_123 => ?_)
              · skip
                rw [Int32.lt_iff_toInt_lt] at c_123
                exact W.vret hx hb hr (fun t ht hW => ⟨⟨f_118, rfl, ⟨hG, hfr0⟩, by rw [ht]; exact hP, va_K.moved hW.alike hK, pl_in hD⟩, hS.F ht⟩) hS.2.2 dX12_breaks_140
              · skip
                rw [Int32.lt_iff_toInt_lt] at c_123
                refine lv_iload hx hb dX12_breaks_119 (lv_at hl 0 rfl) ?_
                refine lv_iload_n hx hb dX12_breaks_121 rfl (lv_at hl 1 rfl) ?_
                refine lv_iand hx hb dX12_breaks_122 ?_
                refine lv_topi (fun x_124 ex_124 => ?_)
                have bx_124 : ((-2147483648) ≤ x_124.toInt ∧ x_124.toInt ≤ 2147483647) := ⟨i32_lo _, i32_hi _⟩
                have hcut_130 : ∀ (f_126 : Nat → va_E), GI (okc cI cL cZ cR cG cH L kd) kd L f_126 → ∀ (H : Heap) (locs : List Loc), va_P (dC, dI) vwCl (va_pl L f_126) H → va_S (fun q => q ∈ L) s.heap H locs → va_D (fun q => q ∈ L) (va_pl L f_126) → (∀ b, kd b ≠ 603 → f_126 b = f b) → (f_126 o0 = .inr (12, [.ref a_2, .ref a_3, .ref a_4, .int v_5, .ref a_6, .int v_7, .int v_8, .int v_9, .int v_10, .int v_11, .int v_12, .int v_13, .int v_14, .int v_15, .int v_16, .ref a_17, .ref a_18, .ref a_19, .ref a_20, .ref a_21, .ref a_22, .ref a_23, .ref a_24, .int v_25, .int v_26, .int v_27, .int v_28, .int v_29, .ref a_30, .int v_31, .ref a_32, .ref a_33, .int v_34, .int v_35, .ref a_36, .int v_37, .ref a_38, .ref a_39, .int v_40, .int v_41, .ref a_42, .ref a_43, .ref a_44, .int v_45, .ref a_46, .ref a_47, .ref a_48, .ref a_49, .ref a_50, .ref a_51, .ref a_52, .ref a_53, .ref a_54, .int v_55, .int v_56, .ref a_57])) → (f_126 a_32 = .inl (cI, 6561, .inl g_62)) → (f_126 a_2 = .inl (cI, 1560, .inl g_91)) → ∀ (ls : Array Slot), lv_has ls 6 [(4, .int y_116), (3, .int y_88), (0, .ref o0), (1, .int p1), (2, .int p2)] → W p l e (headSpec (wU yX12_breaks cX12_breaks 6 none) { frames := 6, cells := 0, slots := 0, locals := 157 }).room s m [.ref o0, .int p1, .int p2].toArray below meth c H locs 0 0 (MQ below (va_Qv (fun (f9 : Nat → va_E) => GI (okc cI cL cZ cR cG cH L kd) kd L f9 ∧ (∀ b, kd b ≠ 603 → f9 b = f b)) (qP (dC, dI) cI cL cZ cR cG cH L) (fun q => q ∈ L)) [.ref o0, .int p1, .int p2].toArray s 0 0 (fun q => q ∈ L)) (F0 m 134 ls []) := by
                  intro f_126 hG H locs hP hS hD hfr0 hfo_127 hfo_128 hfo_129 ls hl
                  obtain ⟨x_131, ex_131⟩ : ∃ y : Int32, y_116 + 1 = y := ⟨_, rfl⟩
                  have hx_131 : x_131.toInt = y_116.toInt + 1 := by rw [← ex_131, ad_I (by rw [ti_1]; omega) (by rw [ti_1]; omega), ti_1]
                  have bx_131 : (1 ≤ x_131.toInt ∧ x_131.toInt ≤ 256) := by constructor <;> omega
                  refine lv_iinc (v := x_131) (lv' := [(4, .int x_131), (3, .int y_88), (0, .ref o0), (1, .int p1), (2, .int p2)]) hx hb dX12_breaks_134 hl (k := 0) rfl ex_131 (by decide) rfl (fun ls hl => ?_)
                  refine lv_goto (tgt := 107) hx hb dX12_breaks_137 (by decide) ?_
                  exact ih_hloop_115 x_131 (by constructor <;> omega) f_126 hG _ _ hP hS hD hfr0 hfo_127 hfo_128 hfo_129 (by omega) ls (lv_sub hl [0, 1, 2, 3, 4] rfl)
                refine lv_if_ne (tgt := 134) hx hb dX12_breaks_123 (by decide) (fun c_132 => ?_) (fun c_132 => ?_)
                · skip
                  rw [← Int32.toInt_inj, ti_0] at c_132
                  exact hcut_130 f_118 hG _ _ hP hS hD hfr0 hfo_119 hfo_120 hfo_121 ls (lv_sub hl [0, 1, 2, 3, 4] rfl)
                · skip
                  rw [← Int32.toInt_inj, ti_0] at c_132
                  refine lv_aload_n hx hb dX12_breaks_126 rfl (lv_at hl 2 rfl) ?_
                  refine tk_getP (D := (dC, dI)) (ci := 12) (v := .ref a_49) (C := RX12) (T := TX12) (N := 56) hx hb hU inlX12 hown hK hP mo0 hfo_119 rfl 47 (by decide) (hU _ wd_197) (fun _ h9 => h9) rfl dX12_breaks_127 ?_
                  refine lv_iload hx hb dX12_breaks_130 (lv_at hl 0 rfl) ?_
                  refine lv_iconst (v := 1) hx hb dX12_breaks_132 (by decide) ?_
                  obtain ⟨g_134, hfo_133, hbg_134⟩ := un_603 (hG _ ma_49) ka_49
                  refine tk_zstP hx hb hK hP hD hS 2 ma_49 hfo_133 rfl (vp_in_iff.mpr (by constructor <;> omega)) (bt_n (by decide)) dX12_breaks_133 (fun H locs hP hD hS => ?_)
                  obtain ⟨f_136, ef_136⟩ : ∃ y : Nat → va_E, y = va_up f_118 a_49 (.inl (cZ, 256, .inl (upd g_134 (Int32.toNatClampNeg y_116) 1))) := ⟨_, rfl⟩
                  have hP : va_P (dC, dI) vwCl (va_pl L f_136) H := by rw [ef_136]; exact hP
                  have hD : va_D (fun q => q ∈ L) (va_pl L f_136) := by rw [ef_136]; exact hD
                  have hG : GI (okc cI cL cZ cR cG cH L kd) kd L f_136 := by rw [ef_136]; exact hG.set a_49 (mk_603 ka_49 ⟨_, rfl, okI_up hbg_134 (by decide) _⟩)
                  have hfo_137 : f_136 o0 = .inr (12, [.ref a_2, .ref a_3, .ref a_4, .int v_5, .ref a_6, .int v_7, .int v_8, .int v_9, .int v_10, .int v_11, .int v_12, .int v_13, .int v_14, .int v_15, .int v_16, .ref a_17, .ref a_18, .ref a_19, .ref a_20, .ref a_21, .ref a_22, .ref a_23, .ref a_24, .int v_25, .int v_26, .int v_27, .int v_28, .int v_29, .ref a_30, .int v_31, .ref a_32, .ref a_33, .int v_34, .int v_35, .ref a_36, .int v_37, .ref a_38, .ref a_39, .int v_40, .int v_41, .ref a_42, .ref a_43, .ref a_44, .int v_45, .ref a_46, .ref a_47, .ref a_48, .ref a_49, .ref a_50, .ref a_51, .ref a_52, .ref a_53, .ref a_54, .int v_55, .int v_56, .ref a_57]) := by rw [ef_136, up_ne (kd_ne ka_49 ko0 (by decide))]; exact hfo_119
                  have hfo_138 : f_136 a_32 = .inl (cI, 6561, .inl g_62) := by rw [ef_136, up_ne (kd_ne ka_49 ka_32 (by decide))]; exact hfo_120
                  have hfo_139 : f_136 a_2 = .inl (cI, 1560, .inl g_91) := by rw [ef_136, up_ne (kd_ne ka_49 ka_2 (by decide))]; exact hfo_121
                  have hfr0 : ∀ b, kd b ≠ 603 → f_136 b = f b := fun b q603 => (congrFun ef_136 b).trans ((up_ne (fun e9 => q603 (by rw [e9]; exact ka_49))).trans (hfr0 b q603))
                  have hfo_140 : f_136 a_49 = .inl (cZ, 256, .inl (upd g_134 (Int32.toNatClampNeg y_116) 1)) := by rw [ef_136]; exact up_self
                  exact hcut_130 f_136 hG _ _ hP hS hD hfr0 hfo_137 hfo_138 hfo_139 ls (lv_sub hl [0, 1, 2, 3, 4] rfl)
          exact hloop_115 257 0 (by decide) f hG _ _ hP hS hD hfr0 hfo_1 hfo_61 hfo_90 (by (try rw [ti_0]) <;> omega) ls hl
        · skip
          rw [Int32.le_iff_toInt_le] at c_93
          refine lv_iconst (v := 0) hx hb dX12_breaks_35 (by decide) ?_
          refine lv_istore (lv' := [(5, .int 0), (4, .int y_87), (3, .int y_88), (0, .ref o0), (1, .int p1), (2, .int p2)]) hx hb dX12_breaks_36 hl (by decide) rfl (fun ls hl => ?_)
          have hloop_165 : ∀ (n : Nat), ∀ (y_166 : Int32), (0 ≤ y_166.toInt ∧ y_166.toInt ≤ 13) → ∀ (y_167 : Int32), ((-2147483648) ≤ y_167.toInt ∧ y_167.toInt ≤ 2147483647) → ∀ (H : Heap) (locs : List Loc), va_P (dC, dI) vwCl (va_pl L f) H → va_S (fun q => q ∈ L) s.heap H locs → 13 - y_166.toInt < (n : Int) → ∀ (ls : Array Slot), lv_has ls 6 [(5, .int y_166), (4, .int y_87), (3, .int y_167), (0, .ref o0), (1, .int p1), (2, .int p2)] → W p l e (headSpec (wU yX12_breaks cX12_breaks 6 none) { frames := 6, cells := 0, slots := 0, locals := 157 }).room s m [.ref o0, .int p1, .int p2].toArray below meth c H locs 0 0 (MQ below (va_Qv (fun (f9 : Nat → va_E) => GI (okc cI cL cZ cR cG cH L kd) kd L f9 ∧ (∀ b, kd b ≠ 603 → f9 b = f b)) (qP (dC, dI) cI cL cZ cR cG cH L) (fun q => q ∈ L)) [.ref o0, .int p1, .int p2].toArray s 0 0 (fun q => q ∈ L)) (F0 m 38 ls []) := by
            intro n
            induction n with
            | zero => intro y_166 by_166 y_167 by_167 H locs hP hS hmuhloop_165 ls hl; exfalso; omega
            | succ n ih_hloop_165 =>
              intro y_166 by_166 y_167 by_167 H locs hP hS hmuhloop_165 ls hl
              refine lv_iload hx hb dX12_breaks_38 (lv_at hl 0 rfl) ?_
              refine lv_iload_n hx hb dX12_breaks_40 rfl (lv_at hl 4 rfl) ?_
              have hcut_169 : ∀ (ls : Array Slot), lv_has ls 6 [(5, .int y_166), (4, .int y_87), (3, .int y_167), (0, .ref o0), (1, .int p1), (2, .int p2)] → W p l e (headSpec (wU yX12_breaks cX12_breaks 6 none) { frames := 6, cells := 0, slots := 0, locals := 157 }).room s m [.ref o0, .int p1, .int p2].toArray below meth c H locs 0 0 (MQ below (va_Qv (fun (f9 : Nat → va_E) => GI (okc cI cL cZ cR cG cH L kd) kd L f9 ∧ (∀ b, kd b ≠ 603 → f9 b = f b)) (qP (dC, dI) cI cL cZ cR cG cH L) (fun q => q ∈ L)) [.ref o0, .int p1, .int p2].toArray s 0 0 (fun q => q ∈ L)) (F0 m 98 ls []) := by
                intro ls hl
                obtain ⟨x_170, ex_170⟩ : ∃ y : Int32, y_87 + 1 = y := ⟨_, rfl⟩
                have hx_170 : x_170.toInt = y_87.toInt + 1 := by rw [← ex_170, ad_I (by rw [ti_1]; omega) (by rw [ti_1]; omega), ti_1]
                have bx_170 : (1 ≤ x_170.toInt ∧ x_170.toInt ≤ 8) := by constructor <;> omega
                refine lv_iinc (v := x_170) (lv' := [(4, .int x_170), (5, .int y_166), (3, .int y_167), (0, .ref o0), (1, .int p1), (2, .int p2)]) hx hb dX12_breaks_98 hl (k := 1) rfl ex_170 (by decide) rfl (fun ls hl => ?_)
                refine lv_goto (tgt := 23) hx hb dX12_breaks_101 (by decide) ?_
                exact ih_hloop_86 x_170 (by constructor <;> omega) y_167 (by constructor <;> omega) _ _ hP hS (by omega) ls (lv_sub hl [0, 2, 3, 4, 5] rfl)
              refine lv_icmp_ge (tgt := 98) hx hb dX12_breaks_41 (by decide) (fun c_171 => ?_) (fun c_171 => ?_)
              · skip
                rw [Int32.le_iff_toInt_le] at c_171
                exact hcut_169 ls (lv_sub hl [0, 1, 2, 3, 4, 5] rfl)
              · skip
                rw [Int32.le_iff_toInt_le] at c_171
                refine lv_aload_n hx hb dX12_breaks_44 rfl (lv_at hl 3 rfl) ?_
                refine tk_getP (D := (dC, dI)) (ci := 12) (v := .ref a_2) (C := RX12) (T := TX12) (N := 56) hx hb hU inlX12 hown hK hP mo0 hfo_1 rfl 0 (by decide) (hU _ wd_169) (fun _ h9 => h9) rfl dX12_breaks_45 ?_
                refine lv_bipush (v := 40) hx hb dX12_breaks_48 (by decide) ?_
                refine tk_ildP hx hb hK hP 0 ma_2 hfo_90 rfl (vp_in_nI (n := 40) (by decide) (by decide)) dX12_breaks_50 ?_
                refine lv_topi (fun x_172 ex_172 => ?_)
                have bx_172 : (0 ≤ x_172.toInt ∧ x_172.toInt ≤ 255) := by rw [ex_172]; exact hbg_91.2.2.2.2.2.2.1 _ (by decide) (by decide) (by decide)
                refine lv_iload hx hb dX12_breaks_51 (lv_at hl 1 rfl) ?_
                refine lv_ishr hx hb dX12_breaks_53 ?_
                refine lv_topi (fun x_173 ex_173 => ?_)
                have bx_173 : ((-2147483648) ≤ x_173.toInt ∧ x_173.toInt ≤ 2147483647) := ⟨i32_lo _, i32_hi _⟩
                refine lv_iconst (v := 1) hx hb dX12_breaks_54 (by decide) ?_
                refine lv_iand hx hb dX12_breaks_55 ?_
                refine lv_topi (fun x_174 ex_174 => ?_)
                have bx_174 : (0 ≤ x_174.toInt ∧ x_174.toInt ≤ 1) := by rw [ex_174]; have h8 := an_C x_173 (m := 1) (by decide); rw [ti_1] at h8; exact h8
                refine lv_iconst (v := 1) hx hb dX12_breaks_56 (by decide) ?_
                refine lv_icmp_ne (tgt := 98) hx hb dX12_breaks_57 (by decide) (fun c_175 => ?_) (fun c_175 => ?_)
                · skip
                  rw [← Int32.toInt_inj, ti_1] at c_175
                  exact hcut_169 ls (lv_sub hl [0, 1, 2, 3, 4, 5] rfl)
                · skip
                  rw [← Int32.toInt_inj, ti_1] at c_175
                  refine lv_iload_n hx hb dX12_breaks_60 rfl (lv_at hl 2 rfl) ?_
                  refine lv_iload hx hb dX12_breaks_61 (lv_at hl 1 rfl) ?_
                  refine lv_ishr hx hb dX12_breaks_63 ?_
                  refine lv_topi (fun x_176 ex_176 => ?_)
                  have bx_176 : ((-2147483648) ≤ x_176.toInt ∧ x_176.toInt ≤ 2147483647) := ⟨i32_lo _, i32_hi _⟩
                  refine lv_iconst (v := 1) hx hb dX12_breaks_64 (by decide) ?_
                  refine lv_iand hx hb dX12_breaks_65 ?_
                  refine lv_topi (fun x_177 ex_177 => ?_)
                  have bx_177 : (0 ≤ x_177.toInt ∧ x_177.toInt ≤ 1) := by rw [ex_177]; have h8 := an_C x_176 (m := 1) (by decide); rw [ti_1] at h8; exact h8
                  refine lv_if_ne (tgt := 98) hx hb dX12_breaks_66 (by decide) (fun c_178 => ?_) (fun c_178 => ?_)
                  · skip
                    rw [← Int32.toInt_inj, ti_0] at c_178
                    exact hcut_169 ls (lv_sub hl [0, 1, 2, 3, 4, 5] rfl)
                  · skip
                    rw [← Int32.toInt_inj, ti_0] at c_178
                    refine lv_aload_n hx hb dX12_breaks_69 rfl (lv_at hl 3 rfl) ?_
                    refine lv_iload hx hb dX12_breaks_70 (lv_at hl 1 rfl) ?_
                    refine lv_iload hx hb dX12_breaks_72 (lv_at hl 0 rfl) ?_
                    refine lv_aload_n hx hb dX12_breaks_74 rfl (lv_at hl 3 rfl) ?_
                    refine tk_getP (D := (dC, dI)) (ci := 12) (v := .ref a_22) (C := RX12) (T := TX12) (N := 56) hx hb hU inlX12 hown hK hP mo0 hfo_1 rfl 20 (by decide) (hU _ wd_180) (fun _ h9 => h9) rfl dX12_breaks_75 ?_
                    refine lv_iload_n hx hb dX12_breaks_78 rfl (lv_at hl 4 rfl) ?_
                    refine tk_ViP (As := [.int y_87, .int y_166, .ref a_22, .int p1]) (rest := []) (n := 4) hx hb hml hown hU hN hZ (s_X12_isBroken_k12_a588 l (dC, dI) cI cL cZ cR cG cH Z kd L f hG o0 mo0 ko0 y_87 (by constructor <;> omega) y_166 (by constructor <;> omega) a_22 ma_22 ka_22 p1 (by constructor <;> omega)) wd_930 wd_931 wd_932 wd_5 wd_933 (by decide +kernel) ⟨Nat.le_of_ble_eq_true rfl, Nat.le_of_ble_eq_true rfl⟩ hK hP hD hS mo0 hfo_1 12 rfl rfl rfl hl.1 rfl (Nat.le_of_ble_eq_true rfl) dX12_breaks_79 ⟨Nat.le_of_ble_eq_true rfl, Nat.le_of_ble_eq_true rfl⟩ (fun x_179 f_180 H locs hw hP hD hS => ?_)
                    obtain ⟨rfl, bx_179⟩ := hw
                    have hcut_183 : ∀ (y_182 : Int32), ((-2147483648) ≤ y_182.toInt ∧ y_182.toInt ≤ 2147483647) → ∀ (ls : Array Slot), lv_has ls 6 [(5, .int y_166), (4, .int y_87), (3, .int y_182), (0, .ref o0), (1, .int p1), (2, .int p2)] → W p l e (headSpec (wU yX12_breaks cX12_breaks 6 none) { frames := 6, cells := 0, slots := 0, locals := 157 }).room s m [.ref o0, .int p1, .int p2].toArray below meth c H locs 0 0 (MQ below (va_Qv (fun (f9 : Nat → va_E) => GI (okc cI cL cZ cR cG cH L kd) kd L f9 ∧ (∀ b, kd b ≠ 603 → f9 b = f b)) (qP (dC, dI) cI cL cZ cR cG cH L) (fun q => q ∈ L)) [.ref o0, .int p1, .int p2].toArray s 0 0 (fun q => q ∈ L)) (F0 m 92 ls []) := by
                      intro y_182 by_182 ls hl
                      obtain ⟨x_184, ex_184⟩ : ∃ y : Int32, y_166 + 1 = y := ⟨_, rfl⟩
                      have hx_184 : x_184.toInt = y_166.toInt + 1 := by rw [← ex_184, ad_I (by rw [ti_1]; omega) (by rw [ti_1]; omega), ti_1]
                      have bx_184 : (1 ≤ x_184.toInt ∧ x_184.toInt ≤ 13) := by constructor <;> omega
                      refine lv_iinc (v := x_184) (lv' := [(5, .int x_184), (4, .int y_87), (3, .int y_182), (0, .ref o0), (1, .int p1), (2, .int p2)]) hx hb dX12_breaks_92 hl (k := 0) rfl ex_184 (by decide) rfl (fun ls hl => ?_)
                      refine lv_goto (tgt := 38) hx hb dX12_breaks_95 (by decide) ?_
                      exact ih_hloop_165 x_184 (by constructor <;> omega) y_182 (by constructor <;> omega) _ _ hP hS (by omega) ls (lv_sub hl [0, 1, 2, 3, 4, 5] rfl)
                    refine lv_if_eq (tgt := 92) hx hb dX12_breaks_82 (by decide) (fun c_185 => ?_) (fun c_185 => ?_)
                    · skip
                      rw [← Int32.toInt_inj, ti_0] at c_185
                      exact hcut_183 y_167 (by constructor <;> omega) ls (lv_sub hl [0, 1, 2, 3, 4, 5] rfl)
                    · skip
                      rw [← Int32.toInt_inj, ti_0] at c_185
                      refine lv_iload_n hx hb dX12_breaks_85 rfl (lv_at hl 2 rfl) ?_
                      refine lv_iconst (v := 1) hx hb dX12_breaks_86 (by decide) ?_
                      refine lv_iload hx hb dX12_breaks_87 (lv_at hl 1 rfl) ?_
                      refine lv_ishl hx hb dX12_breaks_89 ?_
                      refine lv_topi (fun x_186 ex_186 => ?_)
                      have bx_186 : (1 ≤ x_186.toInt ∧ x_186.toInt ≤ 128) := by rw [ex_186]; exact sh_7 (by constructor <;> omega)
                      refine lv_ior hx hb dX12_breaks_90 ?_
                      refine lv_topi (fun x_187 ex_187 => ?_)
                      have bx_187 : ((-2147483648) ≤ x_187.toInt ∧ x_187.toInt ≤ 2147483647) := ⟨i32_lo _, i32_hi _⟩
                      refine lv_istore_n (lv' := [(3, .int x_187), (5, .int y_166), (4, .int y_87), (0, .ref o0), (1, .int p1), (2, .int p2)]) hx hb dX12_breaks_91 rfl hl (by decide) rfl (fun ls hl => ?_)
                      exact hcut_183 x_187 (by constructor <;> omega) ls (lv_sub hl [1, 2, 0, 3, 4, 5] rfl)
          exact hloop_165 14 0 (by decide) y_88 (by constructor <;> omega) _ _ hP hS (by (try rw [ti_0]) <;> omega) ls hl
    exact hloop_86 9 0 (by decide) 0 (by decide) _ _ hP hS (by (try rw [ti_0]) <;> omega) ls hl
  · skip
    rw [← Int32.toInt_inj] at c_64
    exact W.vret hx hb hr (fun t ht hW => ⟨⟨f, rfl, ⟨hG, hfr0⟩, by rw [ht]; exact hP, va_K.moved hW.alike hK, pl_in hD⟩, hS.F ht⟩) hS.2.2 dX12_breaks_17
set_option maxHeartbeats 8000000 in
set_option maxRecDepth 100000 in
theorem s_X12_completes_k12 (l : Launch) (D : va_G) (cI cL cZ cR cG cH : ClassId) (Z : zT) (kd : Nat → Nat) (L : List Nat) (f : Nat → va_E) (hG : GI (okc cI cL cZ cR cG cH L kd) kd L f) (o0 : Nat) (mo0 : o0 ∈ L) (ko0 : kd o0 = 12) (p1 : Int32) (bp1 : (0 ≤ p1.toInt ∧ p1.toInt ≤ 13)) (p2 : Int32) (bp2 : (0 ≤ p2.toInt ∧ p2.toInt ≤ 13)) (hpreo0 : ∀ (w23 : Int32) (w25 : Int32) (w27 : Int32) (w29 : Int32), fldI (f o0) 23 = some w23 → fldI (f o0) 25 = some w25 → fldI (f o0) 27 = some w27 → fldI (f o0) 29 = some w29 → w27.toInt = 0 ∧ w29.toInt ≤ 200 ∧ (w25.toInt ≤ 1 ∨ w25.toInt = 3 ∨ p2.toInt ≤ 4)) (hxtr0 : srel kd 592 f o0) : mPV l D cI cL cZ cR cG cH Z yX12_completes cX12_completes 4 none 7 182 [.ref o0, .int p1, .int p2] L f (fun (f9 : Nat → va_E) => GI (okc cI cL cZ cR cG cH L kd) kd L f9 ∧ (∀ b, kd b ≠ 12 → kd b ≠ 591 → kd b ≠ 592 → kd b ≠ 593 → kd b ≠ 603 → f9 b = f b) ∧ (∀ b, kd b = 12 → ∀ j, fldR (f9 b) j = fldR (f b) j) ∧ (∀ b, kd b = 12 → ∀ j, j ≠ 27 → j ≠ 29 → j ≠ 32 → fldI (f9 b) j = fldI (f b) j) ∧ (∀ (w25 z25 : Int32) (w27 z27 : Int32) (w29 z29 : Int32), fldI (f o0) 25 = some w25 → fldI (f o0) 27 = some w27 → fldI (f o0) 29 = some w29 → fldI (f9 o0) 25 = some z25 → fldI (f9 o0) 27 = some z27 → fldI (f9 o0) 29 = some z29 → (z27.toInt = 1 ∨ z29.toInt ≤ 200) ∧ (w25.toInt ≤ 1 ∨ z29.toInt = w29.toInt)) ∧ (srel kd 592 f9 o0)) := by
  obtain ⟨dC, dI⟩ := D
  refine Met.ofW (cc := cX12_completes) (maxL := 4) (ret := none) (by decide) rfl ?_
  intro p e s m args below meth c s₁ B hml hv
  obtain ⟨rfl, hP, hK, hD0, hN, hZ⟩ := hv
  have hx := B.exec
  have hb := B.bytes
  have hr := B.returns
  have hU : ∀ w ∈ wsU, w.before _ s = true := fun w h => atoms_spec (ws := wU yX12_completes cX12_completes 4 none) B.pre w (List.mem_cons_of_mem _ h)
  have hown : s.vm.findClass RX12 = some m.cls := findClass_of_methodNamed B.named
  have hlocks := B.notSynchronized
  have hD := pl_in hD0
  have hS : va_S (fun q => q ∈ L) s.heap s.heap [] := va_S.rf
  have hl := lv_entry ([.ref o0, .int p1, .int p2]) (n := 4) (Nat.le_of_ble_eq_true rfl)
  rw [lg_entry_eq]
  generalize (lg_sl ([.ref o0, .int p1, .int p2]) ++ List.replicate (4 - (lg_sl ([.ref o0, .int p1, .int p2])).length) Slot.unset).toArray = ls at hl ⊢
  have hl : lv_has ls 4 [(0, .ref o0), (1, .int p1), (2, .int p2)] := hl
  have hfr0 : ∀ b, kd b ≠ 12 → kd b ≠ 591 → kd b ≠ 592 → kd b ≠ 593 → kd b ≠ 603 → f b = f b := fun _ _ _ _ _ _ => rfl
  have hrA12 : ∀ b, kd b = 12 → ∀ j, fldR (f b) j = fldR (f b) j := fun _ _ _ => rfl
  have hfA12 : ∀ b, kd b = 12 → ∀ j, j ≠ 27 → j ≠ 29 → j ≠ 32 → fldI (f b) j = fldI (f b) j := fun _ _ _ _ _ _ => rfl
  obtain ⟨a_2, a_3, a_4, v_5, a_6, v_7, v_8, v_9, v_10, v_11, v_12, v_13, v_14, v_15, v_16, a_17, a_18, a_19, a_20, a_21, a_22, a_23, a_24, v_25, v_26, v_27, v_28, v_29, a_30, v_31, a_32, a_33, v_34, v_35, a_36, v_37, a_38, a_39, v_40, v_41, a_42, a_43, a_44, v_45, a_46, a_47, a_48, a_49, a_50, a_51, a_52, a_53, a_54, v_55, v_56, a_57, hfo_1, ⟨ma_2, ka_2⟩, ⟨ma_3, ka_3⟩, ⟨ma_4, ka_4⟩, bv_5, ⟨ma_6, ka_6⟩, bv_7, bv_8, bv_13, bv_14, bv_15, ⟨ma_17, ka_17⟩, ⟨ma_18, ka_18⟩, ⟨ma_19, ka_19⟩, ⟨ma_20, ka_20⟩, ⟨ma_21, ka_21⟩, ⟨ma_22, ka_22⟩, ⟨ma_23, ka_23⟩, ⟨ma_24, ka_24⟩, bv_25, bv_27, bv_29, ⟨ma_30, ka_30⟩, bv_31, ⟨ma_32, ka_32⟩, ⟨ma_33, ka_33⟩, bv_34, ⟨ma_36, ka_36⟩, bv_37, ⟨ma_38, ka_38⟩, ⟨ma_39, ka_39⟩, bv_40, ⟨ma_42, ka_42⟩, ⟨ma_43, ka_43⟩, ⟨ma_44, ka_44⟩, bv_45, ⟨ma_46, ka_46⟩, ⟨ma_47, ka_47⟩, ⟨ma_48, ka_48⟩, ⟨ma_49, ka_49⟩, ⟨ma_50, ka_50⟩, ⟨ma_51, ka_51⟩, ⟨ma_52, ka_52⟩, ⟨ma_53, ka_53⟩, ⟨ma_54, ka_54⟩, bv_55, ⟨ma_57, ka_57⟩⟩ := un_12 (hG _ mo0) ko0
  have bv_9 : ((-2147483648) ≤ v_9.toInt ∧ v_9.toInt ≤ 2147483647) := ⟨i32_lo _, i32_hi _⟩
  have bv_10 : ((-2147483648) ≤ v_10.toInt ∧ v_10.toInt ≤ 2147483647) := ⟨i32_lo _, i32_hi _⟩
  have bv_11 : ((-2147483648) ≤ v_11.toInt ∧ v_11.toInt ≤ 2147483647) := ⟨i32_lo _, i32_hi _⟩
  have bv_12 : ((-2147483648) ≤ v_12.toInt ∧ v_12.toInt ≤ 2147483647) := ⟨i32_lo _, i32_hi _⟩
  have bv_16 : ((-2147483648) ≤ v_16.toInt ∧ v_16.toInt ≤ 2147483647) := ⟨i32_lo _, i32_hi _⟩
  have bv_26 : ((-2147483648) ≤ v_26.toInt ∧ v_26.toInt ≤ 2147483647) := ⟨i32_lo _, i32_hi _⟩
  have bv_28 : ((-2147483648) ≤ v_28.toInt ∧ v_28.toInt ≤ 2147483647) := ⟨i32_lo _, i32_hi _⟩
  have bv_35 : ((-2147483648) ≤ v_35.toInt ∧ v_35.toInt ≤ 2147483647) := ⟨i32_lo _, i32_hi _⟩
  have bv_41 : ((-2147483648) ≤ v_41.toInt ∧ v_41.toInt ≤ 2147483647) := ⟨i32_lo _, i32_hi _⟩
  have bv_56 : ((-2147483648) ≤ v_56.toInt ∧ v_56.toInt ≤ 2147483647) := ⟨i32_lo _, i32_hi _⟩
  have hpo0 := hpreo0 v_25 v_27 v_29 v_31 (by rw [hfo_1]; rfl) (by rw [hfo_1]; rfl) (by rw [hfo_1]; rfl) (by rw [hfo_1]; rfl)
  have hT0 := hxtr0
  refine lv_aload_n hx hb dX12_completes_0 rfl (lv_at hl 0 rfl) ?_
  refine tk_getP (D := (dC, dI)) (ci := 12) (v := .int v_27) (C := RX12) (T := TX12) (N := 56) hx hb hU inlX12 hown hK hP mo0 hfo_1 rfl 25 (by decide) (hU _ wd_872) (fun _ h9 => h9) rfl dX12_completes_1 ?_
  by_cases c_58 : v_27 = 0
  · refine tk_topi (y := 0) c_58 ?_
    have tc_58 : v_27.toInt = 0 := by rw [c_58]; rfl
    refine lv_tableIn (tgt := 36) hx hb dX12_completes_4 (by decide) (by decide) rfl (by decide) ?_
    refine lv_aload_n hx hb dX12_completes_36 rfl (lv_at hl 0 rfl) ?_
    refine lv_iload_n hx hb dX12_completes_37 rfl (lv_at hl 2 rfl) ?_
    refine tk_VvP (As := [.int p2]) (rest := []) (n := 1) hx hb hml hown hU hN hZ (s_X12_finds_k12 l (dC, dI) cI cL cZ cR cG cH Z kd L f hG o0 mo0 ko0 p2 (by constructor <;> omega) (by intro w29 e29; rw [hfo_1] at e29; obtain rfl := Option.some.inj e29; omega)) wd_907 wd_908 wd_909 wd_5 wd_910 (by decide +kernel) ⟨Nat.le_of_ble_eq_true rfl, Nat.le_of_ble_eq_true rfl⟩ hK hP hD hS mo0 hfo_1 12 rfl rfl rfl hl.1 rfl (Nat.le_of_ble_eq_true rfl) dX12_completes_38 ⟨Nat.le_of_ble_eq_true rfl, Nat.le_of_ble_eq_true rfl⟩ (fun f_60 H locs hw hP hD hS => ?_)
    obtain ⟨hG, hkc_61, hra_62, hfa_63, hpost_64⟩ := hw
    have hfr0 : ∀ b, kd b ≠ 12 → kd b ≠ 591 → kd b ≠ 592 → kd b ≠ 593 → kd b ≠ 603 → f_60 b = f b := fun b q12 q591 q592 q593 q603 => (hkc_61 b q12 q591).trans (hfr0 b q12 q591 q592 q593 q603)
    have hrA12 : ∀ b, kd b = 12 → ∀ j, fldR (f_60 b) j = fldR (f b) j := fun b kb j => (hra_62 b kb j).trans (hrA12 b kb j)
    have hfA12 : ∀ b, kd b = 12 → ∀ j, j ≠ 27 → j ≠ 29 → j ≠ 32 → fldI (f_60 b) j = fldI (f b) j := fun b kb j n27 n29 n32 => (hfa_63 b kb j n27 n29).trans (hfA12 b kb j n27 n29 n32)
    have hT0 : srel kd 592 f_60 o0 := hT0.keep (fun b q => hra_62 b q 30) (fun b q => hfa_63 b q 32 (by decide) (by decide)) (fun b q => hfa_63 b q 33 (by decide) (by decide)) (fun b q => hkc_61 b (by rw [q]; decide) (by rw [q]; decide))
    obtain ⟨a_67, a_68, a_69, v_70, a_71, v_72, v_73, v_74, v_75, v_76, v_77, v_78, v_79, v_80, v_81, a_82, a_83, a_84, a_85, a_86, a_87, a_88, a_89, v_90, v_91, v_92, v_93, v_94, a_95, v_96, a_97, a_98, v_99, v_100, a_101, v_102, a_103, a_104, v_105, v_106, a_107, a_108, a_109, v_110, a_111, a_112, a_113, a_114, a_115, a_116, a_117, a_118, a_119, v_120, v_121, a_122, hfo_66, ⟨ma_67, ka_67⟩, ⟨ma_68, ka_68⟩, ⟨ma_69, ka_69⟩, bv_70, ⟨ma_71, ka_71⟩, bv_72, bv_73, bv_78, bv_79, bv_80, ⟨ma_82, ka_82⟩, ⟨ma_83, ka_83⟩, ⟨ma_84, ka_84⟩, ⟨ma_85, ka_85⟩, ⟨ma_86, ka_86⟩, ⟨ma_87, ka_87⟩, ⟨ma_88, ka_88⟩, ⟨ma_89, ka_89⟩, bv_90, bv_92, bv_94, ⟨ma_95, ka_95⟩, bv_96, ⟨ma_97, ka_97⟩, ⟨ma_98, ka_98⟩, bv_99, ⟨ma_101, ka_101⟩, bv_102, ⟨ma_103, ka_103⟩, ⟨ma_104, ka_104⟩, bv_105, ⟨ma_107, ka_107⟩, ⟨ma_108, ka_108⟩, ⟨ma_109, ka_109⟩, bv_110, ⟨ma_111, ka_111⟩, ⟨ma_112, ka_112⟩, ⟨ma_113, ka_113⟩, ⟨ma_114, ka_114⟩, ⟨ma_115, ka_115⟩, ⟨ma_116, ka_116⟩, ⟨ma_117, ka_117⟩, ⟨ma_118, ka_118⟩, ⟨ma_119, ka_119⟩, bv_120, ⟨ma_122, ka_122⟩⟩ := un_12 (hG _ mo0) ko0
    have bv_74 : ((-2147483648) ≤ v_74.toInt ∧ v_74.toInt ≤ 2147483647) := ⟨i32_lo _, i32_hi _⟩
    have bv_75 : ((-2147483648) ≤ v_75.toInt ∧ v_75.toInt ≤ 2147483647) := ⟨i32_lo _, i32_hi _⟩
    have bv_76 : ((-2147483648) ≤ v_76.toInt ∧ v_76.toInt ≤ 2147483647) := ⟨i32_lo _, i32_hi _⟩
    have bv_77 : ((-2147483648) ≤ v_77.toInt ∧ v_77.toInt ≤ 2147483647) := ⟨i32_lo _, i32_hi _⟩
    have bv_81 : ((-2147483648) ≤ v_81.toInt ∧ v_81.toInt ≤ 2147483647) := ⟨i32_lo _, i32_hi _⟩
    have bv_91 : ((-2147483648) ≤ v_91.toInt ∧ v_91.toInt ≤ 2147483647) := ⟨i32_lo _, i32_hi _⟩
    have bv_93 : ((-2147483648) ≤ v_93.toInt ∧ v_93.toInt ≤ 2147483647) := ⟨i32_lo _, i32_hi _⟩
    have bv_100 : ((-2147483648) ≤ v_100.toInt ∧ v_100.toInt ≤ 2147483647) := ⟨i32_lo _, i32_hi _⟩
    have bv_106 : ((-2147483648) ≤ v_106.toInt ∧ v_106.toInt ≤ 2147483647) := ⟨i32_lo _, i32_hi _⟩
    have bv_121 : ((-2147483648) ≤ v_121.toInt ∧ v_121.toInt ≤ 2147483647) := ⟨i32_lo _, i32_hi _⟩
    obtain ⟨rfl, rfl, rfl, rfl, rfl, rfl, rfl, rfl, rfl, rfl, rfl, rfl, rfl, rfl, rfl, rfl, rfl, rfl, rfl, rfl, rfl, rfl, rfl, rfl, rfl, rfl, rfl, rfl, rfl, rfl, rfl⟩ := re_12 hfo_1 hfo_66 (hrA12 o0 ko0)
    obtain rfl := ri_12_3 hfo_1 hfo_66 (hfA12 o0 ko0 3 (by decide) (by decide) (by decide))
    obtain rfl := ri_12_5 hfo_1 hfo_66 (hfA12 o0 ko0 5 (by decide) (by decide) (by decide))
    obtain rfl := ri_12_6 hfo_1 hfo_66 (hfA12 o0 ko0 6 (by decide) (by decide) (by decide))
    obtain rfl := ri_12_11 hfo_1 hfo_66 (hfA12 o0 ko0 11 (by decide) (by decide) (by decide))
    obtain rfl := ri_12_12 hfo_1 hfo_66 (hfA12 o0 ko0 12 (by decide) (by decide) (by decide))
    obtain rfl := ri_12_13 hfo_1 hfo_66 (hfA12 o0 ko0 13 (by decide) (by decide) (by decide))
    obtain rfl := ri_12_14 hfo_1 hfo_66 (hfA12 o0 ko0 14 (by decide) (by decide) (by decide))
    obtain rfl := ri_12_23 hfo_1 hfo_66 (hfA12 o0 ko0 23 (by decide) (by decide) (by decide))
    obtain rfl := ri_12_25 hfo_1 hfo_66 (hfA12 o0 ko0 25 (by decide) (by decide) (by decide))
    obtain rfl := ri_12_33 hfo_1 hfo_66 (hfA12 o0 ko0 33 (by decide) (by decide) (by decide))
    obtain rfl := ri_12_35 hfo_1 hfo_66 (hfA12 o0 ko0 35 (by decide) (by decide) (by decide))
    obtain rfl := ri_12_38 hfo_1 hfo_66 (hfA12 o0 ko0 38 (by decide) (by decide) (by decide))
    obtain rfl := ri_12_43 hfo_1 hfo_66 (hfA12 o0 ko0 43 (by decide) (by decide) (by decide))
    obtain rfl := ri_12_53 hfo_1 hfo_66 (hfA12 o0 ko0 53 (by decide) (by decide) (by decide))
    obtain rfl := ri_12_32 hfo_1 hfo_66 (hfa_63 o0 ko0 32 (by decide) (by decide))
    have hqhpost_64 := hpost_64 v_29 v_94 v_31 v_96 (by rw [hfo_1]; rfl) (by rw [hfo_1]; rfl) (by rw [hfo_66]; rfl) (by rw [hfo_66]; rfl)
    refine lv_goto (tgt := 103) hx hb dX12_completes_41 (by decide) ?_
    exact W.vret hx hb hr (fun t ht hW => ⟨⟨f_60, rfl, ⟨hG, hfr0, hrA12, hfA12, (by intro w25 z25 w27 z27 w29 z29 e25 e27 e29 d25 d27 d29; rw [hfo_1] at e25 e27 e29; rw [hfo_66] at d25 d27 d29; obtain rfl := Option.some.inj e25; obtain rfl := Option.some.inj d25; obtain rfl := Option.some.inj e27; obtain rfl := Option.some.inj d27; obtain rfl := Option.some.inj e29; obtain rfl := Option.some.inj d29; omega), hT0⟩, by rw [ht]; exact hP, va_K.moved hW.alike hK, pl_in hD⟩, hS.F ht⟩) hS.2.2 dX12_completes_103
  by_cases c_123 : v_27 = 1
  · refine tk_topi (y := 1) c_123 ?_
    have tc_123 : v_27.toInt = 1 := by rw [c_123]; rfl
    refine lv_tableIn (tgt := 36) hx hb dX12_completes_4 (by decide) (by decide) rfl (by decide) ?_
    refine lv_aload_n hx hb dX12_completes_36 rfl (lv_at hl 0 rfl) ?_
    refine lv_iload_n hx hb dX12_completes_37 rfl (lv_at hl 2 rfl) ?_
    refine tk_VvP (As := [.int p2]) (rest := []) (n := 1) hx hb hml hown hU hN hZ (s_X12_finds_k12 l (dC, dI) cI cL cZ cR cG cH Z kd L f hG o0 mo0 ko0 p2 (by constructor <;> omega) (by intro w29 e29; rw [hfo_1] at e29; obtain rfl := Option.some.inj e29; omega)) wd_907 wd_908 wd_909 wd_5 wd_910 (by decide +kernel) ⟨Nat.le_of_ble_eq_true rfl, Nat.le_of_ble_eq_true rfl⟩ hK hP hD hS mo0 hfo_1 12 rfl rfl rfl hl.1 rfl (Nat.le_of_ble_eq_true rfl) dX12_completes_38 ⟨Nat.le_of_ble_eq_true rfl, Nat.le_of_ble_eq_true rfl⟩ (fun f_125 H locs hw hP hD hS => ?_)
    obtain ⟨hG, hkc_126, hra_127, hfa_128, hpost_129⟩ := hw
    have hfr0 : ∀ b, kd b ≠ 12 → kd b ≠ 591 → kd b ≠ 592 → kd b ≠ 593 → kd b ≠ 603 → f_125 b = f b := fun b q12 q591 q592 q593 q603 => (hkc_126 b q12 q591).trans (hfr0 b q12 q591 q592 q593 q603)
    have hrA12 : ∀ b, kd b = 12 → ∀ j, fldR (f_125 b) j = fldR (f b) j := fun b kb j => (hra_127 b kb j).trans (hrA12 b kb j)
    have hfA12 : ∀ b, kd b = 12 → ∀ j, j ≠ 27 → j ≠ 29 → j ≠ 32 → fldI (f_125 b) j = fldI (f b) j := fun b kb j n27 n29 n32 => (hfa_128 b kb j n27 n29).trans (hfA12 b kb j n27 n29 n32)
    have hT0 : srel kd 592 f_125 o0 := hT0.keep (fun b q => hra_127 b q 30) (fun b q => hfa_128 b q 32 (by decide) (by decide)) (fun b q => hfa_128 b q 33 (by decide) (by decide)) (fun b q => hkc_126 b (by rw [q]; decide) (by rw [q]; decide))
    obtain ⟨a_132, a_133, a_134, v_135, a_136, v_137, v_138, v_139, v_140, v_141, v_142, v_143, v_144, v_145, v_146, a_147, a_148, a_149, a_150, a_151, a_152, a_153, a_154, v_155, v_156, v_157, v_158, v_159, a_160, v_161, a_162, a_163, v_164, v_165, a_166, v_167, a_168, a_169, v_170, v_171, a_172, a_173, a_174, v_175, a_176, a_177, a_178, a_179, a_180, a_181, a_182, a_183, a_184, v_185, v_186, a_187, hfo_131, ⟨ma_132, ka_132⟩, ⟨ma_133, ka_133⟩, ⟨ma_134, ka_134⟩, bv_135, ⟨ma_136, ka_136⟩, bv_137, bv_138, bv_143, bv_144, bv_145, ⟨ma_147, ka_147⟩, ⟨ma_148, ka_148⟩, ⟨ma_149, ka_149⟩, ⟨ma_150, ka_150⟩, ⟨ma_151, ka_151⟩, ⟨ma_152, ka_152⟩, ⟨ma_153, ka_153⟩, ⟨ma_154, ka_154⟩, bv_155, bv_157, bv_159, ⟨ma_160, ka_160⟩, bv_161, ⟨ma_162, ka_162⟩, ⟨ma_163, ka_163⟩, bv_164, ⟨ma_166, ka_166⟩, bv_167, ⟨ma_168, ka_168⟩, ⟨ma_169, ka_169⟩, bv_170, ⟨ma_172, ka_172⟩, ⟨ma_173, ka_173⟩, ⟨ma_174, ka_174⟩, bv_175, ⟨ma_176, ka_176⟩, ⟨ma_177, ka_177⟩, ⟨ma_178, ka_178⟩, ⟨ma_179, ka_179⟩, ⟨ma_180, ka_180⟩, ⟨ma_181, ka_181⟩, ⟨ma_182, ka_182⟩, ⟨ma_183, ka_183⟩, ⟨ma_184, ka_184⟩, bv_185, ⟨ma_187, ka_187⟩⟩ := un_12 (hG _ mo0) ko0
    have bv_139 : ((-2147483648) ≤ v_139.toInt ∧ v_139.toInt ≤ 2147483647) := ⟨i32_lo _, i32_hi _⟩
    have bv_140 : ((-2147483648) ≤ v_140.toInt ∧ v_140.toInt ≤ 2147483647) := ⟨i32_lo _, i32_hi _⟩
    have bv_141 : ((-2147483648) ≤ v_141.toInt ∧ v_141.toInt ≤ 2147483647) := ⟨i32_lo _, i32_hi _⟩
    have bv_142 : ((-2147483648) ≤ v_142.toInt ∧ v_142.toInt ≤ 2147483647) := ⟨i32_lo _, i32_hi _⟩
    have bv_146 : ((-2147483648) ≤ v_146.toInt ∧ v_146.toInt ≤ 2147483647) := ⟨i32_lo _, i32_hi _⟩
    have bv_156 : ((-2147483648) ≤ v_156.toInt ∧ v_156.toInt ≤ 2147483647) := ⟨i32_lo _, i32_hi _⟩
    have bv_158 : ((-2147483648) ≤ v_158.toInt ∧ v_158.toInt ≤ 2147483647) := ⟨i32_lo _, i32_hi _⟩
    have bv_165 : ((-2147483648) ≤ v_165.toInt ∧ v_165.toInt ≤ 2147483647) := ⟨i32_lo _, i32_hi _⟩
    have bv_171 : ((-2147483648) ≤ v_171.toInt ∧ v_171.toInt ≤ 2147483647) := ⟨i32_lo _, i32_hi _⟩
    have bv_186 : ((-2147483648) ≤ v_186.toInt ∧ v_186.toInt ≤ 2147483647) := ⟨i32_lo _, i32_hi _⟩
    obtain ⟨rfl, rfl, rfl, rfl, rfl, rfl, rfl, rfl, rfl, rfl, rfl, rfl, rfl, rfl, rfl, rfl, rfl, rfl, rfl, rfl, rfl, rfl, rfl, rfl, rfl, rfl, rfl, rfl, rfl, rfl, rfl⟩ := re_12 hfo_1 hfo_131 (hrA12 o0 ko0)
    obtain rfl := ri_12_3 hfo_1 hfo_131 (hfA12 o0 ko0 3 (by decide) (by decide) (by decide))
    obtain rfl := ri_12_5 hfo_1 hfo_131 (hfA12 o0 ko0 5 (by decide) (by decide) (by decide))
    obtain rfl := ri_12_6 hfo_1 hfo_131 (hfA12 o0 ko0 6 (by decide) (by decide) (by decide))
    obtain rfl := ri_12_11 hfo_1 hfo_131 (hfA12 o0 ko0 11 (by decide) (by decide) (by decide))
    obtain rfl := ri_12_12 hfo_1 hfo_131 (hfA12 o0 ko0 12 (by decide) (by decide) (by decide))
    obtain rfl := ri_12_13 hfo_1 hfo_131 (hfA12 o0 ko0 13 (by decide) (by decide) (by decide))
    obtain rfl := ri_12_14 hfo_1 hfo_131 (hfA12 o0 ko0 14 (by decide) (by decide) (by decide))
    obtain rfl := ri_12_23 hfo_1 hfo_131 (hfA12 o0 ko0 23 (by decide) (by decide) (by decide))
    obtain rfl := ri_12_25 hfo_1 hfo_131 (hfA12 o0 ko0 25 (by decide) (by decide) (by decide))
    obtain rfl := ri_12_33 hfo_1 hfo_131 (hfA12 o0 ko0 33 (by decide) (by decide) (by decide))
    obtain rfl := ri_12_35 hfo_1 hfo_131 (hfA12 o0 ko0 35 (by decide) (by decide) (by decide))
    obtain rfl := ri_12_38 hfo_1 hfo_131 (hfA12 o0 ko0 38 (by decide) (by decide) (by decide))
    obtain rfl := ri_12_43 hfo_1 hfo_131 (hfA12 o0 ko0 43 (by decide) (by decide) (by decide))
    obtain rfl := ri_12_53 hfo_1 hfo_131 (hfA12 o0 ko0 53 (by decide) (by decide) (by decide))
    obtain rfl := ri_12_32 hfo_1 hfo_131 (hfa_128 o0 ko0 32 (by decide) (by decide))
    have hqhpost_129 := hpost_129 v_29 v_159 v_31 v_161 (by rw [hfo_1]; rfl) (by rw [hfo_1]; rfl) (by rw [hfo_131]; rfl) (by rw [hfo_131]; rfl)
    refine lv_goto (tgt := 103) hx hb dX12_completes_41 (by decide) ?_
    exact W.vret hx hb hr (fun t ht hW => ⟨⟨f_125, rfl, ⟨hG, hfr0, hrA12, hfA12, (by intro w25 z25 w27 z27 w29 z29 e25 e27 e29 d25 d27 d29; rw [hfo_1] at e25 e27 e29; rw [hfo_131] at d25 d27 d29; obtain rfl := Option.some.inj e25; obtain rfl := Option.some.inj d25; obtain rfl := Option.some.inj e27; obtain rfl := Option.some.inj d27; obtain rfl := Option.some.inj e29; obtain rfl := Option.some.inj d29; omega), hT0⟩, by rw [ht]; exact hP, va_K.moved hW.alike hK, pl_in hD⟩, hS.F ht⟩) hS.2.2 dX12_completes_103
  by_cases c_188 : v_27 = 2
  · refine tk_topi (y := 2) c_188 ?_
    have tc_188 : v_27.toInt = 2 := by rw [c_188]; rfl
    refine lv_tableIn (tgt := 44) hx hb dX12_completes_4 (by decide) (by decide) rfl (by decide) ?_
    have hclc_189 : (0 ≤ p2.toInt ∧ p2.toInt ≤ 4) := by constructor <;> omega
    refine lv_aload_n hx hb dX12_completes_44 rfl (lv_at hl 0 rfl) ?_
    refine lv_iload_n hx hb dX12_completes_45 rfl (lv_at hl 2 rfl) ?_
    refine tk_VvP (As := [.int p2]) (rest := []) (n := 1) hx hb hml hown hU hN hZ (s_X12_marks_k12 l (dC, dI) cI cL cZ cR cG cH Z kd L f hG o0 mo0 ko0 p2 (by constructor <;> omega) hT0) wd_916 wd_917 wd_918 wd_5 wd_919 (by decide +kernel) ⟨Nat.le_of_ble_eq_true rfl, Nat.le_of_ble_eq_true rfl⟩ hK hP hD hS mo0 hfo_1 12 rfl rfl rfl hl.1 rfl (Nat.le_of_ble_eq_true rfl) dX12_completes_46 ⟨Nat.le_of_ble_eq_true rfl, Nat.le_of_ble_eq_true rfl⟩ (fun f_191 H locs hw hP hD hS => ?_)
    obtain ⟨hG, hkc_192, hra_193, hfa_194, hTc_195⟩ := hw
    have hfr0 : ∀ b, kd b ≠ 12 → kd b ≠ 591 → kd b ≠ 592 → kd b ≠ 593 → kd b ≠ 603 → f_191 b = f b := fun b q12 q591 q592 q593 q603 => (hkc_192 b q12 q592 q593).trans (hfr0 b q12 q591 q592 q593 q603)
    have hrA12 : ∀ b, kd b = 12 → ∀ j, fldR (f_191 b) j = fldR (f b) j := fun b kb j => (hra_193 b kb j).trans (hrA12 b kb j)
    have hfA12 : ∀ b, kd b = 12 → ∀ j, j ≠ 27 → j ≠ 29 → j ≠ 32 → fldI (f_191 b) j = fldI (f b) j := fun b kb j n27 n29 n32 => (hfa_194 b kb j n32).trans (hfA12 b kb j n27 n29 n32)
    obtain ⟨a_198, a_199, a_200, v_201, a_202, v_203, v_204, v_205, v_206, v_207, v_208, v_209, v_210, v_211, v_212, a_213, a_214, a_215, a_216, a_217, a_218, a_219, a_220, v_221, v_222, v_223, v_224, v_225, a_226, v_227, a_228, a_229, v_230, v_231, a_232, v_233, a_234, a_235, v_236, v_237, a_238, a_239, a_240, v_241, a_242, a_243, a_244, a_245, a_246, a_247, a_248, a_249, a_250, v_251, v_252, a_253, hfo_197, ⟨ma_198, ka_198⟩, ⟨ma_199, ka_199⟩, ⟨ma_200, ka_200⟩, bv_201, ⟨ma_202, ka_202⟩, bv_203, bv_204, bv_209, bv_210, bv_211, ⟨ma_213, ka_213⟩, ⟨ma_214, ka_214⟩, ⟨ma_215, ka_215⟩, ⟨ma_216, ka_216⟩, ⟨ma_217, ka_217⟩, ⟨ma_218, ka_218⟩, ⟨ma_219, ka_219⟩, ⟨ma_220, ka_220⟩, bv_221, bv_223, bv_225, ⟨ma_226, ka_226⟩, bv_227, ⟨ma_228, ka_228⟩, ⟨ma_229, ka_229⟩, bv_230, ⟨ma_232, ka_232⟩, bv_233, ⟨ma_234, ka_234⟩, ⟨ma_235, ka_235⟩, bv_236, ⟨ma_238, ka_238⟩, ⟨ma_239, ka_239⟩, ⟨ma_240, ka_240⟩, bv_241, ⟨ma_242, ka_242⟩, ⟨ma_243, ka_243⟩, ⟨ma_244, ka_244⟩, ⟨ma_245, ka_245⟩, ⟨ma_246, ka_246⟩, ⟨ma_247, ka_247⟩, ⟨ma_248, ka_248⟩, ⟨ma_249, ka_249⟩, ⟨ma_250, ka_250⟩, bv_251, ⟨ma_253, ka_253⟩⟩ := un_12 (hG _ mo0) ko0
    have bv_205 : ((-2147483648) ≤ v_205.toInt ∧ v_205.toInt ≤ 2147483647) := ⟨i32_lo _, i32_hi _⟩
    have bv_206 : ((-2147483648) ≤ v_206.toInt ∧ v_206.toInt ≤ 2147483647) := ⟨i32_lo _, i32_hi _⟩
    have bv_207 : ((-2147483648) ≤ v_207.toInt ∧ v_207.toInt ≤ 2147483647) := ⟨i32_lo _, i32_hi _⟩
    have bv_208 : ((-2147483648) ≤ v_208.toInt ∧ v_208.toInt ≤ 2147483647) := ⟨i32_lo _, i32_hi _⟩
    have bv_212 : ((-2147483648) ≤ v_212.toInt ∧ v_212.toInt ≤ 2147483647) := ⟨i32_lo _, i32_hi _⟩
    have bv_222 : ((-2147483648) ≤ v_222.toInt ∧ v_222.toInt ≤ 2147483647) := ⟨i32_lo _, i32_hi _⟩
    have bv_224 : ((-2147483648) ≤ v_224.toInt ∧ v_224.toInt ≤ 2147483647) := ⟨i32_lo _, i32_hi _⟩
    have bv_231 : ((-2147483648) ≤ v_231.toInt ∧ v_231.toInt ≤ 2147483647) := ⟨i32_lo _, i32_hi _⟩
    have bv_237 : ((-2147483648) ≤ v_237.toInt ∧ v_237.toInt ≤ 2147483647) := ⟨i32_lo _, i32_hi _⟩
    have bv_252 : ((-2147483648) ≤ v_252.toInt ∧ v_252.toInt ≤ 2147483647) := ⟨i32_lo _, i32_hi _⟩
    obtain ⟨rfl, rfl, rfl, rfl, rfl, rfl, rfl, rfl, rfl, rfl, rfl, rfl, rfl, rfl, rfl, rfl, rfl, rfl, rfl, rfl, rfl, rfl, rfl, rfl, rfl, rfl, rfl, rfl, rfl, rfl, rfl⟩ := re_12 hfo_1 hfo_197 (hrA12 o0 ko0)
    obtain rfl := ri_12_3 hfo_1 hfo_197 (hfA12 o0 ko0 3 (by decide) (by decide) (by decide))
    obtain rfl := ri_12_5 hfo_1 hfo_197 (hfA12 o0 ko0 5 (by decide) (by decide) (by decide))
    obtain rfl := ri_12_6 hfo_1 hfo_197 (hfA12 o0 ko0 6 (by decide) (by decide) (by decide))
    obtain rfl := ri_12_11 hfo_1 hfo_197 (hfA12 o0 ko0 11 (by decide) (by decide) (by decide))
    obtain rfl := ri_12_12 hfo_1 hfo_197 (hfA12 o0 ko0 12 (by decide) (by decide) (by decide))
    obtain rfl := ri_12_13 hfo_1 hfo_197 (hfA12 o0 ko0 13 (by decide) (by decide) (by decide))
    obtain rfl := ri_12_14 hfo_1 hfo_197 (hfA12 o0 ko0 14 (by decide) (by decide) (by decide))
    obtain rfl := ri_12_23 hfo_1 hfo_197 (hfA12 o0 ko0 23 (by decide) (by decide) (by decide))
    obtain rfl := ri_12_25 hfo_1 hfo_197 (hfA12 o0 ko0 25 (by decide) (by decide) (by decide))
    obtain rfl := ri_12_33 hfo_1 hfo_197 (hfA12 o0 ko0 33 (by decide) (by decide) (by decide))
    obtain rfl := ri_12_35 hfo_1 hfo_197 (hfA12 o0 ko0 35 (by decide) (by decide) (by decide))
    obtain rfl := ri_12_38 hfo_1 hfo_197 (hfA12 o0 ko0 38 (by decide) (by decide) (by decide))
    obtain rfl := ri_12_43 hfo_1 hfo_197 (hfA12 o0 ko0 43 (by decide) (by decide) (by decide))
    obtain rfl := ri_12_53 hfo_1 hfo_197 (hfA12 o0 ko0 53 (by decide) (by decide) (by decide))
    obtain rfl := ri_12_27 hfo_1 hfo_197 (hfa_194 o0 ko0 27 (by decide))
    obtain rfl := ri_12_29 hfo_1 hfo_197 (hfa_194 o0 ko0 29 (by decide))
    refine lv_goto (tgt := 103) hx hb dX12_completes_49 (by decide) ?_
    exact W.vret hx hb hr (fun t ht hW => ⟨⟨f_191, rfl, ⟨hG, hfr0, hrA12, hfA12, (by intro w25 z25 w27 z27 w29 z29 e25 e27 e29 d25 d27 d29; rw [hfo_1] at e25 e27 e29; rw [hfo_197] at d25 d27 d29; obtain rfl := Option.some.inj e25; obtain rfl := Option.some.inj d25; obtain rfl := Option.some.inj e27; obtain rfl := Option.some.inj d27; obtain rfl := Option.some.inj e29; obtain rfl := Option.some.inj d29; omega), hTc_195⟩, by rw [ht]; exact hP, va_K.moved hW.alike hK, pl_in hD⟩, hS.F ht⟩) hS.2.2 dX12_completes_103
  by_cases c_254 : v_27 = 3
  · refine tk_topi (y := 3) c_254 ?_
    have tc_254 : v_27.toInt = 3 := by rw [c_254]; rfl
    refine lv_tableIn (tgt := 52) hx hb dX12_completes_4 (by decide) (by decide) rfl (by decide) ?_
    refine lv_iconst (v := 0) hx hb dX12_completes_52 (by decide) ?_
    refine lv_istore_n (lv' := [(3, .int 0), (0, .ref o0), (1, .int p1), (2, .int p2)]) hx hb dX12_completes_53 rfl hl (by decide) rfl (fun ls hl => ?_)
    have hloop_382 : ∀ (n : Nat), ∀ (y_383 : Int32), (0 ≤ y_383.toInt ∧ y_383.toInt ≤ 13) → ∀ (f_385 : Nat → va_E), GI (okc cI cL cZ cR cG cH L kd) kd L f_385 → ∀ (H : Heap) (locs : List Loc), va_P (dC, dI) vwCl (va_pl L f_385) H → va_S (fun q => q ∈ L) s.heap H locs → va_D (fun q => q ∈ L) (va_pl L f_385) → (∀ b, kd b ≠ 12 → kd b ≠ 591 → kd b ≠ 592 → kd b ≠ 593 → kd b ≠ 603 → f_385 b = f b) → (∀ b, kd b = 12 → ∀ j, fldR (f_385 b) j = fldR (f b) j) → (∀ b, kd b = 12 → ∀ j, j ≠ 27 → j ≠ 29 → j ≠ 32 → fldI (f_385 b) j = fldI (f b) j) → srel kd 592 f_385 o0 → ∀ (whloop_382_0_29 : Int32), fldI (f_385 o0) 29 = some whloop_382_0_29 → (whloop_382_0_29.toInt = v_31.toInt) → (0 ≤ whloop_382_0_29.toInt ∧ whloop_382_0_29.toInt ≤ 201) → 13 - y_383.toInt < (n : Int) → ∀ (ls : Array Slot), lv_has ls 4 [(3, .int y_383), (0, .ref o0), (1, .int p1), (2, .int p2)] → W p l e (headSpec (wU yX12_completes cX12_completes 4 none) { frames := 7, cells := 0, slots := 0, locals := 182 }).room s m [.ref o0, .int p1, .int p2].toArray below meth c H locs 0 0 (MQ below (va_Qv (fun (f9 : Nat → va_E) => GI (okc cI cL cZ cR cG cH L kd) kd L f9 ∧ (∀ b, kd b ≠ 12 → kd b ≠ 591 → kd b ≠ 592 → kd b ≠ 593 → kd b ≠ 603 → f9 b = f b) ∧ (∀ b, kd b = 12 → ∀ j, fldR (f9 b) j = fldR (f b) j) ∧ (∀ b, kd b = 12 → ∀ j, j ≠ 27 → j ≠ 29 → j ≠ 32 → fldI (f9 b) j = fldI (f b) j) ∧ (∀ (w25 z25 : Int32) (w27 z27 : Int32) (w29 z29 : Int32), fldI (f o0) 25 = some w25 → fldI (f o0) 27 = some w27 → fldI (f o0) 29 = some w29 → fldI (f9 o0) 25 = some z25 → fldI (f9 o0) 27 = some z27 → fldI (f9 o0) 29 = some z29 → (z27.toInt = 1 ∨ z29.toInt ≤ 200) ∧ (w25.toInt ≤ 1 ∨ z29.toInt = w29.toInt)) ∧ (srel kd 592 f9 o0)) (qP (dC, dI) cI cL cZ cR cG cH L) (fun q => q ∈ L)) [.ref o0, .int p1, .int p2].toArray s 0 0 (fun q => q ∈ L)) (F0 m 54 ls []) := by
      intro n
      induction n with
      | zero => intro y_383 by_383 f_385 hG H locs hP hS hD hfr0 hrA12 hfA12 hT0 whloop_382_0_29 hghloop_382_0_29 hrelhloop_382_0 hrelhloop_382_1 hmuhloop_382 ls hl; exfalso; omega
      | succ n ih_hloop_382 =>
        intro y_383 by_383 f_385 hG H locs hP hS hD hfr0 hrA12 hfA12 hT0 whloop_382_0_29 hghloop_382_0_29 hrelhloop_382_0 hrelhloop_382_1 hmuhloop_382 ls hl
        obtain ⟨a_387, a_388, a_389, v_390, a_391, v_392, v_393, v_394, v_395, v_396, v_397, v_398, v_399, v_400, v_401, a_402, a_403, a_404, a_405, a_406, a_407, a_408, a_409, v_410, v_411, v_412, v_413, v_414, a_415, v_416, a_417, a_418, v_419, v_420, a_421, v_422, a_423, a_424, v_425, v_426, a_427, a_428, a_429, v_430, a_431, a_432, a_433, a_434, a_435, a_436, a_437, a_438, a_439, v_440, v_441, a_442, hfo_386, ⟨ma_387, ka_387⟩, ⟨ma_388, ka_388⟩, ⟨ma_389, ka_389⟩, bv_390, ⟨ma_391, ka_391⟩, bv_392, bv_393, bv_398, bv_399, bv_400, ⟨ma_402, ka_402⟩, ⟨ma_403, ka_403⟩, ⟨ma_404, ka_404⟩, ⟨ma_405, ka_405⟩, ⟨ma_406, ka_406⟩, ⟨ma_407, ka_407⟩, ⟨ma_408, ka_408⟩, ⟨ma_409, ka_409⟩, bv_410, bv_412, bv_414, ⟨ma_415, ka_415⟩, bv_416, ⟨ma_417, ka_417⟩, ⟨ma_418, ka_418⟩, bv_419, ⟨ma_421, ka_421⟩, bv_422, ⟨ma_423, ka_423⟩, ⟨ma_424, ka_424⟩, bv_425, ⟨ma_427, ka_427⟩, ⟨ma_428, ka_428⟩, ⟨ma_429, ka_429⟩, bv_430, ⟨ma_431, ka_431⟩, ⟨ma_432, ka_432⟩, ⟨ma_433, ka_433⟩, ⟨ma_434, ka_434⟩, ⟨ma_435, ka_435⟩, ⟨ma_436, ka_436⟩, ⟨ma_437, ka_437⟩, ⟨ma_438, ka_438⟩, ⟨ma_439, ka_439⟩, bv_440, ⟨ma_442, ka_442⟩⟩ := un_12 (hG _ mo0) ko0
        have bv_394 : ((-2147483648) ≤ v_394.toInt ∧ v_394.toInt ≤ 2147483647) := ⟨i32_lo _, i32_hi _⟩
        have bv_395 : ((-2147483648) ≤ v_395.toInt ∧ v_395.toInt ≤ 2147483647) := ⟨i32_lo _, i32_hi _⟩
        have bv_396 : ((-2147483648) ≤ v_396.toInt ∧ v_396.toInt ≤ 2147483647) := ⟨i32_lo _, i32_hi _⟩
        have bv_397 : ((-2147483648) ≤ v_397.toInt ∧ v_397.toInt ≤ 2147483647) := ⟨i32_lo _, i32_hi _⟩
        have bv_401 : ((-2147483648) ≤ v_401.toInt ∧ v_401.toInt ≤ 2147483647) := ⟨i32_lo _, i32_hi _⟩
        have bv_411 : ((-2147483648) ≤ v_411.toInt ∧ v_411.toInt ≤ 2147483647) := ⟨i32_lo _, i32_hi _⟩
        have bv_413 : ((-2147483648) ≤ v_413.toInt ∧ v_413.toInt ≤ 2147483647) := ⟨i32_lo _, i32_hi _⟩
        have bv_420 : ((-2147483648) ≤ v_420.toInt ∧ v_420.toInt ≤ 2147483647) := ⟨i32_lo _, i32_hi _⟩
        have bv_426 : ((-2147483648) ≤ v_426.toInt ∧ v_426.toInt ≤ 2147483647) := ⟨i32_lo _, i32_hi _⟩
        have bv_441 : ((-2147483648) ≤ v_441.toInt ∧ v_441.toInt ≤ 2147483647) := ⟨i32_lo _, i32_hi _⟩
        obtain ⟨rfl, rfl, rfl, rfl, rfl, rfl, rfl, rfl, rfl, rfl, rfl, rfl, rfl, rfl, rfl, rfl, rfl, rfl, rfl, rfl, rfl, rfl, rfl, rfl, rfl, rfl, rfl, rfl, rfl, rfl, rfl⟩ := re_12 hfo_1 hfo_386 (hrA12 o0 ko0)
        obtain rfl := ri_12_3 hfo_1 hfo_386 (hfA12 o0 ko0 3 (by decide) (by decide) (by decide))
        obtain rfl := ri_12_5 hfo_1 hfo_386 (hfA12 o0 ko0 5 (by decide) (by decide) (by decide))
        obtain rfl := ri_12_6 hfo_1 hfo_386 (hfA12 o0 ko0 6 (by decide) (by decide) (by decide))
        obtain rfl := ri_12_11 hfo_1 hfo_386 (hfA12 o0 ko0 11 (by decide) (by decide) (by decide))
        obtain rfl := ri_12_12 hfo_1 hfo_386 (hfA12 o0 ko0 12 (by decide) (by decide) (by decide))
        obtain rfl := ri_12_13 hfo_1 hfo_386 (hfA12 o0 ko0 13 (by decide) (by decide) (by decide))
        obtain rfl := ri_12_14 hfo_1 hfo_386 (hfA12 o0 ko0 14 (by decide) (by decide) (by decide))
        obtain rfl := ri_12_23 hfo_1 hfo_386 (hfA12 o0 ko0 23 (by decide) (by decide) (by decide))
        obtain rfl := ri_12_25 hfo_1 hfo_386 (hfA12 o0 ko0 25 (by decide) (by decide) (by decide))
        obtain rfl := ri_12_33 hfo_1 hfo_386 (hfA12 o0 ko0 33 (by decide) (by decide) (by decide))
        obtain rfl := ri_12_35 hfo_1 hfo_386 (hfA12 o0 ko0 35 (by decide) (by decide) (by decide))
        obtain rfl := ri_12_38 hfo_1 hfo_386 (hfA12 o0 ko0 38 (by decide) (by decide) (by decide))
        obtain rfl := ri_12_43 hfo_1 hfo_386 (hfA12 o0 ko0 43 (by decide) (by decide) (by decide))
        obtain rfl := ri_12_53 hfo_1 hfo_386 (hfA12 o0 ko0 53 (by decide) (by decide) (by decide))
        obtain rfl : v_416 = whloop_382_0_29 := by rw [hfo_386] at hghloop_382_0_29; exact Option.some.inj hghloop_382_0_29
        refine lv_iload_n hx hb dX12_completes_54 rfl (lv_at hl 0 rfl) ?_
        refine lv_iload_n hx hb dX12_completes_55 rfl (lv_at hl 2 rfl) ?_
        refine lv_icmp_ge (tgt := 94) hx hb dX12_completes_56 (by decide) (fun c_443 => ?_) (fun c_443 => ?_)
        · skip
          rw [Int32.le_iff_toInt_le] at c_443
          refine lv_goto (tgt := 103) hx hb dX12_completes_94 (by decide) ?_
          exact W.vret hx hb hr (fun t ht hW => ⟨⟨f_385, rfl, ⟨hG, hfr0, hrA12, hfA12, (by intro w25 z25 w27 z27 w29 z29 e25 e27 e29 d25 d27 d29; rw [hfo_1] at e25 e27 e29; rw [hfo_386] at d25 d27 d29; obtain rfl := Option.some.inj e25; obtain rfl := Option.some.inj d25; obtain rfl := Option.some.inj e27; obtain rfl := Option.some.inj d27; obtain rfl := Option.some.inj e29; obtain rfl := Option.some.inj d29; omega), hT0⟩, by rw [ht]; exact hP, va_K.moved hW.alike hK, pl_in hD⟩, hS.F ht⟩) hS.2.2 dX12_completes_103
        · skip
          rw [Int32.le_iff_toInt_le] at c_443
          refine lv_aload_n hx hb dX12_completes_59 rfl (lv_at hl 1 rfl) ?_
          refine tk_getP (D := (dC, dI)) (ci := 12) (v := .int v_414) (C := RX12) (T := TX12) (N := 56) hx hb hU inlX12 hown hK hP mo0 hfo_386 rfl 27 (by decide) (hU _ wd_873) (fun _ h9 => h9) rfl dX12_completes_60 ?_
          refine lv_if_ne (tgt := 94) hx hb dX12_completes_63 (by decide) (fun c_444 => ?_) (fun c_444 => ?_)
          · skip
            rw [← Int32.toInt_inj, ti_0] at c_444
            refine lv_goto (tgt := 103) hx hb dX12_completes_94 (by decide) ?_
            exact W.vret hx hb hr (fun t ht hW => ⟨⟨f_385, rfl, ⟨hG, hfr0, hrA12, hfA12, (by intro w25 z25 w27 z27 w29 z29 e25 e27 e29 d25 d27 d29; rw [hfo_1] at e25 e27 e29; rw [hfo_386] at d25 d27 d29; obtain rfl := Option.some.inj e25; obtain rfl := Option.some.inj d25; obtain rfl := Option.some.inj e27; obtain rfl := Option.some.inj d27; obtain rfl := Option.some.inj e29; obtain rfl := Option.some.inj d29; omega), hT0⟩, by rw [ht]; exact hP, va_K.moved hW.alike hK, pl_in hD⟩, hS.F ht⟩) hS.2.2 dX12_completes_103
          · skip
            rw [← Int32.toInt_inj, ti_0] at c_444
            refine lv_aload_n hx hb dX12_completes_66 rfl (lv_at hl 1 rfl) ?_
            refine lv_aload_n hx hb dX12_completes_67 rfl (lv_at hl 1 rfl) ?_
            refine tk_getP (D := (dC, dI)) (ci := 12) (v := .ref a_22) (C := RX12) (T := TX12) (N := 56) hx hb hU inlX12 hown hK hP mo0 hfo_386 rfl 20 (by decide) (hU _ wd_180) (fun _ h9 => h9) rfl dX12_completes_68 ?_
            refine lv_iload_n hx hb dX12_completes_71 rfl (lv_at hl 0 rfl) ?_
            obtain ⟨g_446, hfo_445, hbg_446⟩ := un_588 (hG _ ma_22) ka_22
            refine tk_ildP hx hb hK hP 0 ma_22 hfo_445 rfl (vp_in_iff.mpr (by constructor <;> omega)) dX12_completes_72 ?_
            refine lv_topi (fun x_447 ex_447 => ?_)
            have bx_447 : ((-2147483648) ≤ x_447.toInt ∧ x_447.toInt ≤ 2147483647) := ⟨i32_lo _, i32_hi _⟩
            refine lv_aload_n hx hb dX12_completes_73 rfl (lv_at hl 1 rfl) ?_
            refine tk_getP (D := (dC, dI)) (ci := 12) (v := .int v_413) (C := RX12) (T := TX12) (N := 56) hx hb hU inlX12 hown hK hP mo0 hfo_386 rfl 26 (by decide) (hU _ wd_906) (fun _ h9 => h9) rfl dX12_completes_74 ?_
            refine lv_icmp_ne (tgt := 84) hx hb dX12_completes_77 (by decide) (fun c_448 => ?_) (fun c_448 => ?_)
            · skip
              rw [← Int32.toInt_inj] at c_448
              refine lv_iconst (v := 0) hx hb dX12_completes_84 (by decide) ?_
              refine tk_putP (D := (dC, dI)) (ci := 12) (v := .int 0) (ty := .boolean) (C := RX12) (T := TX12) (N := 56) hx hb hU inlX12 tyX12 tyX12_ok nmX12 hown hK hP hD hS mo0 hfo_386 rfl 27 (by decide) (hU _ wd_873) (fun _ h9 => h9) rfl (by decide +kernel) rfl rfl (Nat.le_of_ble_eq_true rfl) dX12_completes_85 (fun H locs hP hD hS => ?_)
              obtain ⟨f_450, ef_450⟩ : ∃ y : Nat → va_E, y = va_up f_385 o0 (.inr (12, [.ref a_2, .ref a_3, .ref a_4, .int v_5, .ref a_6, .int v_7, .int v_8, .int v_394, .int v_395, .int v_396, .int v_397, .int v_13, .int v_14, .int v_15, .int v_16, .ref a_17, .ref a_18, .ref a_19, .ref a_20, .ref a_21, .ref a_22, .ref a_23, .ref a_24, .int v_25, .int v_411, .int v_27, .int v_413, .int 0, .ref a_30, .int v_416, .ref a_32, .ref a_33, .int v_419, .int v_35, .ref a_36, .int v_37, .ref a_38, .ref a_39, .int v_40, .int v_426, .ref a_42, .ref a_43, .ref a_44, .int v_45, .ref a_46, .ref a_47, .ref a_48, .ref a_49, .ref a_50, .ref a_51, .ref a_52, .ref a_53, .ref a_54, .int v_55, .int v_441, .ref a_57])) := ⟨_, rfl⟩
              have hP : va_P (dC, dI) vwCl (va_pl L f_450) H := by rw [ef_450]; exact hP
              have hD : va_D (fun q => q ∈ L) (va_pl L f_450) := by rw [ef_450]; exact hD
              have hG : GI (okc cI cL cZ cR cG cH L kd) kd L f_450 := by rw [ef_450]; exact hG.set o0 (mk_12 ko0 ⟨a_2, a_3, a_4, v_5, a_6, v_7, v_8, v_394, v_395, v_396, v_397, v_13, v_14, v_15, v_16, a_17, a_18, a_19, a_20, a_21, a_22, a_23, a_24, v_25, v_411, v_27, v_413, 0, a_30, v_416, a_32, a_33, v_419, v_35, a_36, v_37, a_38, a_39, v_40, v_426, a_42, a_43, a_44, v_45, a_46, a_47, a_48, a_49, a_50, a_51, a_52, a_53, a_54, v_55, v_441, a_57, rfl, ⟨ma_2, ka_2⟩, ⟨ma_3, ka_3⟩, ⟨ma_4, ka_4⟩, (by constructor <;> omega), ⟨ma_6, ka_6⟩, (by constructor <;> omega), (by constructor <;> omega), (by constructor <;> omega), (by constructor <;> omega), (by constructor <;> omega), ⟨ma_17, ka_17⟩, ⟨ma_18, ka_18⟩, ⟨ma_19, ka_19⟩, ⟨ma_20, ka_20⟩, ⟨ma_21, ka_21⟩, ⟨ma_22, ka_22⟩, ⟨ma_23, ka_23⟩, ⟨ma_24, ka_24⟩, (by constructor <;> omega), (by constructor <;> omega), (by decide), ⟨ma_30, ka_30⟩, (by constructor <;> omega), ⟨ma_32, ka_32⟩, ⟨ma_33, ka_33⟩, (by constructor <;> omega), ⟨ma_36, ka_36⟩, (by constructor <;> omega), ⟨ma_38, ka_38⟩, ⟨ma_39, ka_39⟩, (by constructor <;> omega), ⟨ma_42, ka_42⟩, ⟨ma_43, ka_43⟩, ⟨ma_44, ka_44⟩, (by constructor <;> omega), ⟨ma_46, ka_46⟩, ⟨ma_47, ka_47⟩, ⟨ma_48, ka_48⟩, ⟨ma_49, ka_49⟩, ⟨ma_50, ka_50⟩, ⟨ma_51, ka_51⟩, ⟨ma_52, ka_52⟩, ⟨ma_53, ka_53⟩, ⟨ma_54, ka_54⟩, (by constructor <;> omega), ⟨ma_57, ka_57⟩⟩)
              have hfo_451 : f_450 a_22 = .inl (cI, 20, .inl g_446) := by rw [ef_450, up_ne (kd_ne ko0 ka_22 (by decide))]; exact hfo_445
              have hfr0 : ∀ b, kd b ≠ 12 → kd b ≠ 591 → kd b ≠ 592 → kd b ≠ 593 → kd b ≠ 603 → f_450 b = f b := fun b q12 q591 q592 q593 q603 => (congrFun ef_450 b).trans ((up_ne (fun e9 => q12 (by rw [e9]; exact ko0))).trans (hfr0 b q12 q591 q592 q593 q603))
              have hrA12 : ∀ b, kd b = 12 → ∀ j, fldR (f_450 b) j = fldR (f b) j := fun b kb j => ((congrArg (fun x => fldR x j) (congrFun ef_450 b)).trans (fra_up (fun j => by rw [hfo_386]; exact fr_set (k := 27) rfl rfl j) j b)).trans (hrA12 b kb j)
              have hfA12 : ∀ b, kd b = 12 → ∀ j, j ≠ 27 → j ≠ 29 → j ≠ 32 → fldI (f_450 b) j = fldI (f b) j := fun b kb j n27 n29 n32 => ((congrArg (fun x => fldI x j) (congrFun ef_450 b)).trans (fia_up (fun h9 => by rw [hfo_386]; exact fi_set (k := 27) rfl h9) n27 b)).trans (hfA12 b kb j n27 n29 n32)
              have hT0 : srel kd 592 f_450 o0 := by rw [ef_450]; exact hT0.keep (fun b _ => fr_up (by rw [hfo_386]; rfl) b) (fun b _ => fk_up (by rw [hfo_386]; rfl) b) (fun b _ => fk_up (by rw [hfo_386]; rfl) b) (fun b q => up_ne (kd_ne ko0 q (by decide)))
              have hfo_452 : f_450 o0 = .inr (12, [.ref a_2, .ref a_3, .ref a_4, .int v_5, .ref a_6, .int v_7, .int v_8, .int v_394, .int v_395, .int v_396, .int v_397, .int v_13, .int v_14, .int v_15, .int v_16, .ref a_17, .ref a_18, .ref a_19, .ref a_20, .ref a_21, .ref a_22, .ref a_23, .ref a_24, .int v_25, .int v_411, .int v_27, .int v_413, .int 0, .ref a_30, .int v_416, .ref a_32, .ref a_33, .int v_419, .int v_35, .ref a_36, .int v_37, .ref a_38, .ref a_39, .int v_40, .int v_426, .ref a_42, .ref a_43, .ref a_44, .int v_45, .ref a_46, .ref a_47, .ref a_48, .ref a_49, .ref a_50, .ref a_51, .ref a_52, .ref a_53, .ref a_54, .int v_55, .int v_441, .ref a_57]) := by rw [ef_450]; exact up_self
              obtain ⟨x_453, ex_453⟩ : ∃ y : Int32, y_383 + 1 = y := ⟨_, rfl⟩
              have hx_453 : x_453.toInt = y_383.toInt + 1 := by rw [← ex_453, ad_I (by rw [ti_1]; omega) (by rw [ti_1]; omega), ti_1]
              have bx_453 : (1 ≤ x_453.toInt ∧ x_453.toInt ≤ 13) := by constructor <;> omega
              refine lv_iinc (v := x_453) (lv' := [(3, .int x_453), (0, .ref o0), (1, .int p1), (2, .int p2)]) hx hb dX12_completes_88 hl (k := 0) rfl ex_453 (by decide) rfl (fun ls hl => ?_)
              refine lv_goto (tgt := 54) hx hb dX12_completes_91 (by decide) ?_
              exact ih_hloop_382 x_453 (by constructor <;> omega) f_450 hG _ _ hP hS hD hfr0 hrA12 hfA12 hT0 v_416 (by rw [hfo_452]; rfl) (by omega) (by omega) (by omega) ls (lv_sub hl [0, 1, 2, 3] rfl)
            · skip
              rw [← Int32.toInt_inj] at c_448
              refine lv_iconst (v := 1) hx hb dX12_completes_80 (by decide) ?_
              refine lv_goto (tgt := 85) hx hb dX12_completes_81 (by decide) ?_
              refine tk_putP (D := (dC, dI)) (ci := 12) (v := .int 1) (ty := .boolean) (C := RX12) (T := TX12) (N := 56) hx hb hU inlX12 tyX12 tyX12_ok nmX12 hown hK hP hD hS mo0 hfo_386 rfl 27 (by decide) (hU _ wd_873) (fun _ h9 => h9) rfl (by decide +kernel) rfl rfl (Nat.le_of_ble_eq_true rfl) dX12_completes_85 (fun H locs hP hD hS => ?_)
              obtain ⟨f_455, ef_455⟩ : ∃ y : Nat → va_E, y = va_up f_385 o0 (.inr (12, [.ref a_2, .ref a_3, .ref a_4, .int v_5, .ref a_6, .int v_7, .int v_8, .int v_394, .int v_395, .int v_396, .int v_397, .int v_13, .int v_14, .int v_15, .int v_16, .ref a_17, .ref a_18, .ref a_19, .ref a_20, .ref a_21, .ref a_22, .ref a_23, .ref a_24, .int v_25, .int v_411, .int v_27, .int v_413, .int 1, .ref a_30, .int v_416, .ref a_32, .ref a_33, .int v_419, .int v_35, .ref a_36, .int v_37, .ref a_38, .ref a_39, .int v_40, .int v_426, .ref a_42, .ref a_43, .ref a_44, .int v_45, .ref a_46, .ref a_47, .ref a_48, .ref a_49, .ref a_50, .ref a_51, .ref a_52, .ref a_53, .ref a_54, .int v_55, .int v_441, .ref a_57])) := ⟨_, rfl⟩
              have hP : va_P (dC, dI) vwCl (va_pl L f_455) H := by rw [ef_455]; exact hP
              have hD : va_D (fun q => q ∈ L) (va_pl L f_455) := by rw [ef_455]; exact hD
              have hG : GI (okc cI cL cZ cR cG cH L kd) kd L f_455 := by rw [ef_455]; exact hG.set o0 (mk_12 ko0 ⟨a_2, a_3, a_4, v_5, a_6, v_7, v_8, v_394, v_395, v_396, v_397, v_13, v_14, v_15, v_16, a_17, a_18, a_19, a_20, a_21, a_22, a_23, a_24, v_25, v_411, v_27, v_413, 1, a_30, v_416, a_32, a_33, v_419, v_35, a_36, v_37, a_38, a_39, v_40, v_426, a_42, a_43, a_44, v_45, a_46, a_47, a_48, a_49, a_50, a_51, a_52, a_53, a_54, v_55, v_441, a_57, rfl, ⟨ma_2, ka_2⟩, ⟨ma_3, ka_3⟩, ⟨ma_4, ka_4⟩, (by constructor <;> omega), ⟨ma_6, ka_6⟩, (by constructor <;> omega), (by constructor <;> omega), (by constructor <;> omega), (by constructor <;> omega), (by constructor <;> omega), ⟨ma_17, ka_17⟩, ⟨ma_18, ka_18⟩, ⟨ma_19, ka_19⟩, ⟨ma_20, ka_20⟩, ⟨ma_21, ka_21⟩, ⟨ma_22, ka_22⟩, ⟨ma_23, ka_23⟩, ⟨ma_24, ka_24⟩, (by constructor <;> omega), (by constructor <;> omega), (by decide), ⟨ma_30, ka_30⟩, (by constructor <;> omega), ⟨ma_32, ka_32⟩, ⟨ma_33, ka_33⟩, (by constructor <;> omega), ⟨ma_36, ka_36⟩, (by constructor <;> omega), ⟨ma_38, ka_38⟩, ⟨ma_39, ka_39⟩, (by constructor <;> omega), ⟨ma_42, ka_42⟩, ⟨ma_43, ka_43⟩, ⟨ma_44, ka_44⟩, (by constructor <;> omega), ⟨ma_46, ka_46⟩, ⟨ma_47, ka_47⟩, ⟨ma_48, ka_48⟩, ⟨ma_49, ka_49⟩, ⟨ma_50, ka_50⟩, ⟨ma_51, ka_51⟩, ⟨ma_52, ka_52⟩, ⟨ma_53, ka_53⟩, ⟨ma_54, ka_54⟩, (by constructor <;> omega), ⟨ma_57, ka_57⟩⟩)
              have hfo_456 : f_455 a_22 = .inl (cI, 20, .inl g_446) := by rw [ef_455, up_ne (kd_ne ko0 ka_22 (by decide))]; exact hfo_445
              have hfr0 : ∀ b, kd b ≠ 12 → kd b ≠ 591 → kd b ≠ 592 → kd b ≠ 593 → kd b ≠ 603 → f_455 b = f b := fun b q12 q591 q592 q593 q603 => (congrFun ef_455 b).trans ((up_ne (fun e9 => q12 (by rw [e9]; exact ko0))).trans (hfr0 b q12 q591 q592 q593 q603))
              have hrA12 : ∀ b, kd b = 12 → ∀ j, fldR (f_455 b) j = fldR (f b) j := fun b kb j => ((congrArg (fun x => fldR x j) (congrFun ef_455 b)).trans (fra_up (fun j => by rw [hfo_386]; exact fr_set (k := 27) rfl rfl j) j b)).trans (hrA12 b kb j)
              have hfA12 : ∀ b, kd b = 12 → ∀ j, j ≠ 27 → j ≠ 29 → j ≠ 32 → fldI (f_455 b) j = fldI (f b) j := fun b kb j n27 n29 n32 => ((congrArg (fun x => fldI x j) (congrFun ef_455 b)).trans (fia_up (fun h9 => by rw [hfo_386]; exact fi_set (k := 27) rfl h9) n27 b)).trans (hfA12 b kb j n27 n29 n32)
              have hT0 : srel kd 592 f_455 o0 := by rw [ef_455]; exact hT0.keep (fun b _ => fr_up (by rw [hfo_386]; rfl) b) (fun b _ => fk_up (by rw [hfo_386]; rfl) b) (fun b _ => fk_up (by rw [hfo_386]; rfl) b) (fun b q => up_ne (kd_ne ko0 q (by decide)))
              have hfo_457 : f_455 o0 = .inr (12, [.ref a_2, .ref a_3, .ref a_4, .int v_5, .ref a_6, .int v_7, .int v_8, .int v_394, .int v_395, .int v_396, .int v_397, .int v_13, .int v_14, .int v_15, .int v_16, .ref a_17, .ref a_18, .ref a_19, .ref a_20, .ref a_21, .ref a_22, .ref a_23, .ref a_24, .int v_25, .int v_411, .int v_27, .int v_413, .int 1, .ref a_30, .int v_416, .ref a_32, .ref a_33, .int v_419, .int v_35, .ref a_36, .int v_37, .ref a_38, .ref a_39, .int v_40, .int v_426, .ref a_42, .ref a_43, .ref a_44, .int v_45, .ref a_46, .ref a_47, .ref a_48, .ref a_49, .ref a_50, .ref a_51, .ref a_52, .ref a_53, .ref a_54, .int v_55, .int v_441, .ref a_57]) := by rw [ef_455]; exact up_self
              obtain ⟨x_458, ex_458⟩ : ∃ y : Int32, y_383 + 1 = y := ⟨_, rfl⟩
              have hx_458 : x_458.toInt = y_383.toInt + 1 := by rw [← ex_458, ad_I (by rw [ti_1]; omega) (by rw [ti_1]; omega), ti_1]
              have bx_458 : (1 ≤ x_458.toInt ∧ x_458.toInt ≤ 13) := by constructor <;> omega
              refine lv_iinc (v := x_458) (lv' := [(3, .int x_458), (0, .ref o0), (1, .int p1), (2, .int p2)]) hx hb dX12_completes_88 hl (k := 0) rfl ex_458 (by decide) rfl (fun ls hl => ?_)
              refine lv_goto (tgt := 54) hx hb dX12_completes_91 (by decide) ?_
              exact ih_hloop_382 x_458 (by constructor <;> omega) f_455 hG _ _ hP hS hD hfr0 hrA12 hfA12 hT0 v_416 (by rw [hfo_457]; rfl) (by omega) (by omega) (by omega) ls (lv_sub hl [0, 1, 2, 3] rfl)
    exact hloop_382 14 0 (by decide) f hG _ _ hP hS hD hfr0 hrA12 hfA12 hT0 v_31 (by rw [hfo_1]; rfl) (by (try rw [ti_0]) <;> omega) (by (try rw [ti_0]) <;> omega) (by (try rw [ti_0]) <;> omega) ls hl
  rw [← Int32.toInt_inj, ti_0] at c_58
  rw [← Int32.toInt_inj, ti_1] at c_123
  rw [← Int32.toInt_inj, ti_2] at c_188
  rw [← Int32.toInt_inj, ti_3] at c_254
  refine lv_tableOut (tgt := 97) hx hb dX12_completes_4 (by omega) (by decide) ?_
  have hclc_459 : (0 ≤ p2.toInt ∧ p2.toInt ≤ 4) := by constructor <;> omega
  refine lv_aload_n hx hb dX12_completes_97 rfl (lv_at hl 0 rfl) ?_
  refine lv_iload_n hx hb dX12_completes_98 rfl (lv_at hl 1 rfl) ?_
  refine lv_iload_n hx hb dX12_completes_99 rfl (lv_at hl 2 rfl) ?_
  refine tk_VvP (As := [.int p1, .int p2]) (rest := []) (n := 2) hx hb hml hown hU hN hZ (s_X12_breaks_k12 l (dC, dI) cI cL cZ cR cG cH Z kd L f hG o0 mo0 ko0 p1 (by constructor <;> omega) p2 (by constructor <;> omega)) wd_926 wd_927 wd_928 wd_5 wd_929 (by decide +kernel) ⟨Nat.le_of_ble_eq_true rfl, Nat.le_of_ble_eq_true rfl⟩ hK hP hD hS mo0 hfo_1 12 rfl rfl rfl hl.1 rfl (Nat.le_of_ble_eq_true rfl) dX12_completes_100 ⟨Nat.le_of_ble_eq_true rfl, Nat.le_of_ble_eq_true rfl⟩ (fun f_461 H locs hw hP hD hS => ?_)
  obtain ⟨hG, hkc_462⟩ := hw
  have hfo_464 : f_461 o0 = .inr (12, [.ref a_2, .ref a_3, .ref a_4, .int v_5, .ref a_6, .int v_7, .int v_8, .int v_9, .int v_10, .int v_11, .int v_12, .int v_13, .int v_14, .int v_15, .int v_16, .ref a_17, .ref a_18, .ref a_19, .ref a_20, .ref a_21, .ref a_22, .ref a_23, .ref a_24, .int v_25, .int v_26, .int v_27, .int v_28, .int v_29, .ref a_30, .int v_31, .ref a_32, .ref a_33, .int v_34, .int v_35, .ref a_36, .int v_37, .ref a_38, .ref a_39, .int v_40, .int v_41, .ref a_42, .ref a_43, .ref a_44, .int v_45, .ref a_46, .ref a_47, .ref a_48, .ref a_49, .ref a_50, .ref a_51, .ref a_52, .ref a_53, .ref a_54, .int v_55, .int v_56, .ref a_57]) := by rw [hkc_462 o0 (by rw [ko0]; decide)]; exact hfo_1
  have hfr0 : ∀ b, kd b ≠ 12 → kd b ≠ 591 → kd b ≠ 592 → kd b ≠ 593 → kd b ≠ 603 → f_461 b = f b := fun b q12 q591 q592 q593 q603 => (hkc_462 b q603).trans (hfr0 b q12 q591 q592 q593 q603)
  have hrA12 : ∀ b, kd b = 12 → ∀ j, fldR (f_461 b) j = fldR (f b) j := fun b kb j => (congrArg (fun x => fldR x j) (hkc_462 b (by rw [kb]; decide))).trans (hrA12 b kb j)
  have hfA12 : ∀ b, kd b = 12 → ∀ j, j ≠ 27 → j ≠ 29 → j ≠ 32 → fldI (f_461 b) j = fldI (f b) j := fun b kb j n27 n29 n32 => (congrArg (fun x => fldI x j) (hkc_462 b (by rw [kb]; decide))).trans (hfA12 b kb j n27 n29 n32)
  have hT0 : srel kd 592 f_461 o0 := hT0.keep (fun b q => congrArg (fun x => fldR x 30) (hkc_462 b (by rw [q]; decide))) (fun b q => congrArg (fun x => fldI x 32) (hkc_462 b (by rw [q]; decide))) (fun b q => congrArg (fun x => fldI x 33) (hkc_462 b (by rw [q]; decide))) (fun b q => hkc_462 b (by rw [q]; decide))
  exact W.vret hx hb hr (fun t ht hW => ⟨⟨f_461, rfl, ⟨hG, hfr0, hrA12, hfA12, (by intro w25 z25 w27 z27 w29 z29 e25 e27 e29 d25 d27 d29; rw [hfo_1] at e25 e27 e29; rw [hfo_464] at d25 d27 d29; obtain rfl := Option.some.inj e25; obtain rfl := Option.some.inj d25; obtain rfl := Option.some.inj e27; obtain rfl := Option.some.inj d27; obtain rfl := Option.some.inj e29; obtain rfl := Option.some.inj d29; omega), hT0⟩, by rw [ht]; exact hP, va_K.moved hW.alike hK, pl_in hD⟩, hS.F ht⟩) hS.2.2 dX12_completes_103
