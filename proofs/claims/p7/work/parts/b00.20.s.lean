set_option maxHeartbeats 8000000 in
set_option maxRecDepth 100000 in
theorem s_X7_keepPair_k207 (l : Launch) (D : va_G) (cI cL cZ cR cG cH : ClassId) (Z : zT) (kd : Nat → Nat) (L : List Nat) (f : Nat → va_E) (hG : GI (okc cI cL cZ cR cG cH L kd) kd L f) (o0 : Nat) (mo0 : o0 ∈ L) (ko0 : kd o0 = 207) (p1 : Int32) (bp1 : (0 ≤ p1.toInt ∧ p1.toInt ≤ 8)) (p2 : Int32) (bp2 : (0 ≤ p2.toInt ∧ p2.toInt ≤ 8)) (p3 : Int32) (bp3 : (0 ≤ p3.toInt ∧ p3.toInt ≤ 3)) (p4 : Int32) (bp4 : (0 ≤ p4.toInt ∧ p4.toInt ≤ 3)) (hpreo0 : ∀ (w6 : Int32) (w1 : Int32), fldI (f o0) 6 = some w6 → fldI (f o0) 1 = some w1 → w6.toInt ≤ 19 ∧ w6.toInt - w1.toInt ≤ 11) : mPV l D cI cL cZ cR cG cH Z yX7_keepPair cX7_keepPair 5 none 0 0 [.ref o0, .int p1, .int p2, .int p3, .int p4] L f (fun (f9 : Nat → va_E) => GI (okc cI cL cZ cR cG cH L kd) kd L f9 ∧ (∀ b, kd b ≠ 207 → kd b ≠ 568 → kd b ≠ 569 → kd b ≠ 572 → f9 b = f b) ∧ (∀ b, kd b = 207 → fldI (f9 b) 1 = fldI (f b) 1) ∧ (∀ b, kd b = 207 → fldI (f9 b) 12 = fldI (f b) 12) ∧ (∀ (w6 z6 : Int32), fldI (f o0) 6 = some w6 → fldI (f9 o0) 6 = some z6 → z6.toInt = w6.toInt + 1)) := by
  obtain ⟨dC, dI⟩ := D
  refine Met.ofW (cc := cX7_keepPair) (maxL := 5) (ret := none) (by decide) rfl ?_
  intro p e s m args below meth c s₁ B hml hv
  obtain ⟨rfl, hP, hK, hD0, hN, hZ⟩ := hv
  have hx := B.exec
  have hb := B.bytes
  have hr := B.returns
  have hU : ∀ w ∈ wsU, w.before _ s = true := fun w h => atoms_spec (ws := wU yX7_keepPair cX7_keepPair 5 none) B.pre w (List.mem_cons_of_mem _ h)
  have hown : s.vm.findClass RX7 = some m.cls := findClass_of_methodNamed B.named
  have hlocks := B.notSynchronized
  have hD := pl_in hD0
  have hS : va_S (fun q => q ∈ L) s.heap s.heap [] := va_S.rf
  have hl := lv_entry ([.ref o0, .int p1, .int p2, .int p3, .int p4]) (n := 5) (Nat.le_of_ble_eq_true rfl)
  rw [lg_entry_eq]
  generalize (lg_sl ([.ref o0, .int p1, .int p2, .int p3, .int p4]) ++ List.replicate (5 - (lg_sl ([.ref o0, .int p1, .int p2, .int p3, .int p4])).length) Slot.unset).toArray = ls at hl ⊢
  have hl : lv_has ls 5 [(0, .ref o0), (1, .int p1), (2, .int p2), (3, .int p3), (4, .int p4)] := hl
  have hfr0 : ∀ b, kd b ≠ 207 → kd b ≠ 568 → kd b ≠ 569 → kd b ≠ 572 → f b = f b := fun _ _ _ _ _ => rfl
  have hfr207_1 : ∀ b, kd b = 207 → fldI (f b) 1 = fldI (f b) 1 := fun _ _ => rfl
  have hfr207_12 : ∀ b, kd b = 207 → fldI (f b) 12 = fldI (f b) 12 := fun _ _ => rfl
  obtain ⟨a_2, v_3, a_4, a_5, a_6, a_7, v_8, a_9, a_10, a_11, a_12, a_13, v_14, a_15, a_16, a_17, hfo_1, ⟨ma_2, ka_2⟩, bv_3, ⟨ma_4, ka_4⟩, ⟨ma_5, ka_5⟩, ⟨ma_6, ka_6⟩, ⟨ma_7, ka_7⟩, bv_8, ⟨ma_9, ka_9⟩, ⟨ma_10, ka_10⟩, ⟨ma_11, ka_11⟩, ⟨ma_12, ka_12⟩, ⟨ma_13, ka_13⟩, bv_14, ⟨ma_15, ka_15⟩, ⟨ma_16, ka_16⟩, ⟨ma_17, ka_17⟩⟩ := un_207 (hG _ mo0) ko0
  have hpo0 := hpreo0 v_8 v_3 (by rw [hfo_1]; rfl) (by rw [hfo_1]; rfl)
  refine lv_aload_n hx hb dX7_keepPair_0 rfl (lv_at hl 0 rfl) ?_
  refine tk_getP (D := (dC, dI)) (ci := 7) (v := .ref a_6) (C := RX7) (T := TX7) (N := 16) hx hb hU inlX7 hown hK hP mo0 hfo_1 rfl 4 (by decide) (hU _ wd_75) (fun _ h9 => h9) rfl dX7_keepPair_1 ?_
  refine lv_aload_n hx hb dX7_keepPair_4 rfl (lv_at hl 0 rfl) ?_
  refine tk_getP (D := (dC, dI)) (ci := 7) (v := .int v_8) (C := RX7) (T := TX7) (N := 16) hx hb hU inlX7 hown hK hP mo0 hfo_1 rfl 6 (by decide) (hU _ wd_263) (fun _ h9 => h9) rfl dX7_keepPair_5 ?_
  refine lv_iload_n hx hb dX7_keepPair_8 rfl (lv_at hl 1 rfl) ?_
  obtain ⟨g_19, hfo_18, hbg_19⟩ := un_569 (hG _ ma_6) ka_6
  refine tk_istP hx hb hK hP hD hS 0 ma_6 hfo_18 rfl (vp_in_iff.mpr (by constructor <;> omega)) dX7_keepPair_9 (fun H locs hP hD hS => ?_)
  obtain ⟨f_21, ef_21⟩ : ∃ y : Nat → va_E, y = va_up f a_6 (.inl (cI, 20, .inl (upd g_19 (Int32.toNatClampNeg v_8) p1))) := ⟨_, rfl⟩
  have hP : va_P (dC, dI) vwCl (va_pl L f_21) H := by rw [ef_21]; exact hP
  have hD : va_D (fun q => q ∈ L) (va_pl L f_21) := by rw [ef_21]; exact hD
  have hG : GI (okc cI cL cZ cR cG cH L kd) kd L f_21 := by rw [ef_21]; exact hG.set a_6 (mk_569 ka_6 ⟨_, rfl, okI_up hbg_19 (by constructor <;> omega) _⟩)
  have hfo_22 : f_21 o0 = .inr (7, [.ref a_2, .int v_3, .ref a_4, .ref a_5, .ref a_6, .ref a_7, .int v_8, .ref a_9, .ref a_10, .ref a_11, .ref a_12, .ref a_13, .int v_14, .ref a_15, .ref a_16, .ref a_17]) := by rw [ef_21, up_ne (kd_ne ka_6 ko0 (by decide))]; exact hfo_1
  have hfr0 : ∀ b, kd b ≠ 207 → kd b ≠ 568 → kd b ≠ 569 → kd b ≠ 572 → f_21 b = f b := fun b q207 q568 q569 q572 => (congrFun ef_21 b).trans ((up_ne (fun e9 => q569 (by rw [e9]; exact ka_6))).trans (hfr0 b q207 q568 q569 q572))
  have hfr207_1 : ∀ b, kd b = 207 → fldI (f_21 b) 1 = fldI (f b) 1 := fun b kb => (congrArg (fun x => fldI x 1) ((congrFun ef_21 b).trans (up_ne (kd_ne ka_6 kb (by decide))))).trans (hfr207_1 b kb)
  have hfr207_12 : ∀ b, kd b = 207 → fldI (f_21 b) 12 = fldI (f b) 12 := fun b kb => (congrArg (fun x => fldI x 12) ((congrFun ef_21 b).trans (up_ne (kd_ne ka_6 kb (by decide))))).trans (hfr207_12 b kb)
  have hfo_23 : f_21 a_6 = .inl (cI, 20, .inl (upd g_19 (Int32.toNatClampNeg v_8) p1)) := by rw [ef_21]; exact up_self
  refine lv_aload_n hx hb dX7_keepPair_10 rfl (lv_at hl 0 rfl) ?_
  refine tk_getP (D := (dC, dI)) (ci := 7) (v := .ref a_7) (C := RX7) (T := TX7) (N := 16) hx hb hU inlX7 hown hK hP mo0 hfo_22 rfl 5 (by decide) (hU _ wd_76) (fun _ h9 => h9) rfl dX7_keepPair_11 ?_
  refine lv_aload_n hx hb dX7_keepPair_14 rfl (lv_at hl 0 rfl) ?_
  refine tk_getP (D := (dC, dI)) (ci := 7) (v := .int v_8) (C := RX7) (T := TX7) (N := 16) hx hb hU inlX7 hown hK hP mo0 hfo_22 rfl 6 (by decide) (hU _ wd_263) (fun _ h9 => h9) rfl dX7_keepPair_15 ?_
  refine lv_iload_n hx hb dX7_keepPair_18 rfl (lv_at hl 2 rfl) ?_
  obtain ⟨g_25, hfo_24, hbg_25⟩ := un_569 (hG _ ma_7) ka_7
  refine tk_istP hx hb hK hP hD hS 0 ma_7 hfo_24 rfl (vp_in_iff.mpr (by constructor <;> omega)) dX7_keepPair_19 (fun H locs hP hD hS => ?_)
  obtain ⟨f_27, ef_27⟩ : ∃ y : Nat → va_E, y = va_up f_21 a_7 (.inl (cI, 20, .inl (upd g_25 (Int32.toNatClampNeg v_8) p2))) := ⟨_, rfl⟩
  have hP : va_P (dC, dI) vwCl (va_pl L f_27) H := by rw [ef_27]; exact hP
  have hD : va_D (fun q => q ∈ L) (va_pl L f_27) := by rw [ef_27]; exact hD
  have hG : GI (okc cI cL cZ cR cG cH L kd) kd L f_27 := by rw [ef_27]; exact hG.set a_7 (mk_569 ka_7 ⟨_, rfl, okI_up hbg_25 (by constructor <;> omega) _⟩)
  have hfo_28 : f_27 o0 = .inr (7, [.ref a_2, .int v_3, .ref a_4, .ref a_5, .ref a_6, .ref a_7, .int v_8, .ref a_9, .ref a_10, .ref a_11, .ref a_12, .ref a_13, .int v_14, .ref a_15, .ref a_16, .ref a_17]) := by rw [ef_27, up_ne (kd_ne ka_7 ko0 (by decide))]; exact hfo_22
  have hfr0 : ∀ b, kd b ≠ 207 → kd b ≠ 568 → kd b ≠ 569 → kd b ≠ 572 → f_27 b = f b := fun b q207 q568 q569 q572 => (congrFun ef_27 b).trans ((up_ne (fun e9 => q569 (by rw [e9]; exact ka_7))).trans (hfr0 b q207 q568 q569 q572))
  have hfr207_1 : ∀ b, kd b = 207 → fldI (f_27 b) 1 = fldI (f b) 1 := fun b kb => (congrArg (fun x => fldI x 1) ((congrFun ef_27 b).trans (up_ne (kd_ne ka_7 kb (by decide))))).trans (hfr207_1 b kb)
  have hfr207_12 : ∀ b, kd b = 207 → fldI (f_27 b) 12 = fldI (f b) 12 := fun b kb => (congrArg (fun x => fldI x 12) ((congrFun ef_27 b).trans (up_ne (kd_ne ka_7 kb (by decide))))).trans (hfr207_12 b kb)
  have hfo_29 : f_27 a_7 = .inl (cI, 20, .inl (upd g_25 (Int32.toNatClampNeg v_8) p2)) := by rw [ef_27]; exact up_self
  refine lv_aload_n hx hb dX7_keepPair_20 rfl (lv_at hl 0 rfl) ?_
  refine lv_dup hx hb dX7_keepPair_21 rfl ?_
  refine tk_getP (D := (dC, dI)) (ci := 7) (v := .int v_8) (C := RX7) (T := TX7) (N := 16) hx hb hU inlX7 hown hK hP mo0 hfo_28 rfl 6 (by decide) (hU _ wd_263) (fun _ h9 => h9) rfl dX7_keepPair_22 ?_
  refine lv_iconst (v := 1) hx hb dX7_keepPair_25 (by decide) ?_
  refine lv_iadd hx hb dX7_keepPair_26 ?_
  refine lv_topi (fun x_30 ex_30 => ?_)
  have hx_30 : x_30.toInt = v_8.toInt + 1 := by rw [ex_30, ad_I (by rw [ti_1]; omega) (by rw [ti_1]; omega), ti_1]
  have bx_30 : (1 ≤ x_30.toInt ∧ x_30.toInt ≤ 20) := by constructor <;> omega
  refine tk_putP (D := (dC, dI)) (ci := 7) (v := .int x_30) (ty := .int) (C := RX7) (T := TX7) (N := 16) hx hb hU inlX7 tyX7 tyX7_ok nmX7 hown hK hP hD hS mo0 hfo_28 rfl 6 (by decide) (hU _ wd_263) (fun _ h9 => h9) rfl (by decide +kernel) rfl rfl (Nat.le_of_ble_eq_true rfl) dX7_keepPair_27 (fun H locs hP hD hS => ?_)
  obtain ⟨f_32, ef_32⟩ : ∃ y : Nat → va_E, y = va_up f_27 o0 (.inr (7, [.ref a_2, .int v_3, .ref a_4, .ref a_5, .ref a_6, .ref a_7, .int x_30, .ref a_9, .ref a_10, .ref a_11, .ref a_12, .ref a_13, .int v_14, .ref a_15, .ref a_16, .ref a_17])) := ⟨_, rfl⟩
  have hP : va_P (dC, dI) vwCl (va_pl L f_32) H := by rw [ef_32]; exact hP
  have hD : va_D (fun q => q ∈ L) (va_pl L f_32) := by rw [ef_32]; exact hD
  have hG : GI (okc cI cL cZ cR cG cH L kd) kd L f_32 := by rw [ef_32]; exact hG.set o0 (mk_207 ko0 ⟨a_2, v_3, a_4, a_5, a_6, a_7, x_30, a_9, a_10, a_11, a_12, a_13, v_14, a_15, a_16, a_17, rfl, ⟨ma_2, ka_2⟩, (by constructor <;> omega), ⟨ma_4, ka_4⟩, ⟨ma_5, ka_5⟩, ⟨ma_6, ka_6⟩, ⟨ma_7, ka_7⟩, (by constructor <;> omega), ⟨ma_9, ka_9⟩, ⟨ma_10, ka_10⟩, ⟨ma_11, ka_11⟩, ⟨ma_12, ka_12⟩, ⟨ma_13, ka_13⟩, (by constructor <;> omega), ⟨ma_15, ka_15⟩, ⟨ma_16, ka_16⟩, ⟨ma_17, ka_17⟩⟩)
  have hfr0 : ∀ b, kd b ≠ 207 → kd b ≠ 568 → kd b ≠ 569 → kd b ≠ 572 → f_32 b = f b := fun b q207 q568 q569 q572 => (congrFun ef_32 b).trans ((up_ne (fun e9 => q207 (by rw [e9]; exact ko0))).trans (hfr0 b q207 q568 q569 q572))
  have hfr207_1 : ∀ b, kd b = 207 → fldI (f_32 b) 1 = fldI (f b) 1 := fun b kb => ((congrArg (fun x => fldI x 1) (congrFun ef_32 b)).trans (fk_up (by rw [hfo_28]; rfl) b)).trans (hfr207_1 b kb)
  have hfr207_12 : ∀ b, kd b = 207 → fldI (f_32 b) 12 = fldI (f b) 12 := fun b kb => ((congrArg (fun x => fldI x 12) (congrFun ef_32 b)).trans (fk_up (by rw [hfo_28]; rfl) b)).trans (hfr207_12 b kb)
  have hfo_33 : f_32 o0 = .inr (7, [.ref a_2, .int v_3, .ref a_4, .ref a_5, .ref a_6, .ref a_7, .int x_30, .ref a_9, .ref a_10, .ref a_11, .ref a_12, .ref a_13, .int v_14, .ref a_15, .ref a_16, .ref a_17]) := by rw [ef_32]; exact up_self
  refine lv_aload_n hx hb dX7_keepPair_30 rfl (lv_at hl 0 rfl) ?_
  refine tk_getP (D := (dC, dI)) (ci := 7) (v := .ref a_5) (C := RX7) (T := TX7) (N := 16) hx hb hU inlX7 hown hK hP mo0 hfo_33 rfl 3 (by decide) (hU _ wd_74) (fun _ h9 => h9) rfl dX7_keepPair_31 ?_
  refine lv_iload_n hx hb dX7_keepPair_34 rfl (lv_at hl 1 rfl) ?_
  refine lv_bipush (v := 9) hx hb dX7_keepPair_35 (by decide) ?_
  refine lv_imul hx hb dX7_keepPair_37 ?_
  refine lv_topi (fun x_34 ex_34 => ?_)
  have hx_34 : x_34.toInt = p1.toInt * 9 := by rw [ex_34, ml_I (by rw [ti_9]; omega) (by rw [ti_9]; omega), ti_9]
  have bx_34 : (0 ≤ x_34.toInt ∧ x_34.toInt ≤ 72) := by constructor <;> omega
  refine lv_iload_n hx hb dX7_keepPair_38 rfl (lv_at hl 2 rfl) ?_
  refine lv_iadd hx hb dX7_keepPair_39 ?_
  refine lv_topi (fun x_35 ex_35 => ?_)
  have hx_35 : x_35.toInt = x_34.toInt + p2.toInt := by rw [ex_35, ad_I (by omega) (by omega)]
  have bx_35 : (0 ≤ x_35.toInt ∧ x_35.toInt ≤ 80) := by constructor <;> omega
  refine lv_aload_n hx hb dX7_keepPair_40 rfl (lv_at hl 0 rfl) ?_
  refine tk_getP (D := (dC, dI)) (ci := 7) (v := .int x_30) (C := RX7) (T := TX7) (N := 16) hx hb hU inlX7 hown hK hP mo0 hfo_33 rfl 6 (by decide) (hU _ wd_263) (fun _ h9 => h9) rfl dX7_keepPair_41 ?_
  obtain ⟨g_37, hfo_36, hbg_37⟩ := un_568 (hG _ ma_5) ka_5
  refine tk_istP hx hb hK hP hD hS 0 ma_5 hfo_36 rfl (vp_in_iff.mpr (by constructor <;> omega)) dX7_keepPair_44 (fun H locs hP hD hS => ?_)
  obtain ⟨f_39, ef_39⟩ : ∃ y : Nat → va_E, y = va_up f_32 a_5 (.inl (cI, 81, .inl (upd g_37 (Int32.toNatClampNeg x_35) x_30))) := ⟨_, rfl⟩
  have hP : va_P (dC, dI) vwCl (va_pl L f_39) H := by rw [ef_39]; exact hP
  have hD : va_D (fun q => q ∈ L) (va_pl L f_39) := by rw [ef_39]; exact hD
  have hG : GI (okc cI cL cZ cR cG cH L kd) kd L f_39 := by rw [ef_39]; exact hG.set a_5 (mk_568 ka_5 ⟨_, rfl, okI_up hbg_37 (by constructor <;> omega) _⟩)
  have hfo_40 : f_39 o0 = .inr (7, [.ref a_2, .int v_3, .ref a_4, .ref a_5, .ref a_6, .ref a_7, .int x_30, .ref a_9, .ref a_10, .ref a_11, .ref a_12, .ref a_13, .int v_14, .ref a_15, .ref a_16, .ref a_17]) := by rw [ef_39, up_ne (kd_ne ka_5 ko0 (by decide))]; exact hfo_33
  have hfr0 : ∀ b, kd b ≠ 207 → kd b ≠ 568 → kd b ≠ 569 → kd b ≠ 572 → f_39 b = f b := fun b q207 q568 q569 q572 => (congrFun ef_39 b).trans ((up_ne (fun e9 => q568 (by rw [e9]; exact ka_5))).trans (hfr0 b q207 q568 q569 q572))
  have hfr207_1 : ∀ b, kd b = 207 → fldI (f_39 b) 1 = fldI (f b) 1 := fun b kb => (congrArg (fun x => fldI x 1) ((congrFun ef_39 b).trans (up_ne (kd_ne ka_5 kb (by decide))))).trans (hfr207_1 b kb)
  have hfr207_12 : ∀ b, kd b = 207 → fldI (f_39 b) 12 = fldI (f b) 12 := fun b kb => (congrArg (fun x => fldI x 12) ((congrFun ef_39 b).trans (up_ne (kd_ne ka_5 kb (by decide))))).trans (hfr207_12 b kb)
  have hfo_41 : f_39 a_5 = .inl (cI, 81, .inl (upd g_37 (Int32.toNatClampNeg x_35) x_30)) := by rw [ef_39]; exact up_self
  refine lv_aload_n hx hb dX7_keepPair_45 rfl (lv_at hl 0 rfl) ?_
  refine tk_getP (D := (dC, dI)) (ci := 7) (v := .ref a_11) (C := RX7) (T := TX7) (N := 16) hx hb hU inlX7 hown hK hP mo0 hfo_40 rfl 9 (by decide) (hU _ wd_79) (fun _ h9 => h9) rfl dX7_keepPair_46 ?_
  refine lv_iload_n hx hb dX7_keepPair_49 rfl (lv_at hl 1 rfl) ?_
  refine lv_iconst (v := 4) hx hb dX7_keepPair_50 (by decide) ?_
  refine lv_imul hx hb dX7_keepPair_51 ?_
  refine lv_topi (fun x_42 ex_42 => ?_)
  have hx_42 : x_42.toInt = p1.toInt * 4 := by rw [ex_42, ml_I (by rw [ti_4]; omega) (by rw [ti_4]; omega), ti_4]
  have bx_42 : (0 ≤ x_42.toInt ∧ x_42.toInt ≤ 32) := by constructor <;> omega
  refine lv_iload_n hx hb dX7_keepPair_52 rfl (lv_at hl 3 rfl) ?_
  refine lv_iadd hx hb dX7_keepPair_53 ?_
  refine lv_topi (fun x_43 ex_43 => ?_)
  have hx_43 : x_43.toInt = x_42.toInt + p3.toInt := by rw [ex_43, ad_I (by omega) (by omega)]
  have bx_43 : (0 ≤ x_43.toInt ∧ x_43.toInt ≤ 35) := by constructor <;> omega
  refine lv_aload_n hx hb dX7_keepPair_54 rfl (lv_at hl 0 rfl) ?_
  refine tk_getP (D := (dC, dI)) (ci := 7) (v := .int x_30) (C := RX7) (T := TX7) (N := 16) hx hb hU inlX7 hown hK hP mo0 hfo_40 rfl 6 (by decide) (hU _ wd_263) (fun _ h9 => h9) rfl dX7_keepPair_55 ?_
  obtain ⟨g_45, hfo_44, hbg_45⟩ := un_572 (hG _ ma_11) ka_11
  refine tk_istP hx hb hK hP hD hS 0 ma_11 hfo_44 rfl (vp_in_iff.mpr (by constructor <;> omega)) dX7_keepPair_58 (fun H locs hP hD hS => ?_)
  obtain ⟨f_47, ef_47⟩ : ∃ y : Nat → va_E, y = va_up f_39 a_11 (.inl (cI, 36, .inl (upd g_45 (Int32.toNatClampNeg x_43) x_30))) := ⟨_, rfl⟩
  have hP : va_P (dC, dI) vwCl (va_pl L f_47) H := by rw [ef_47]; exact hP
  have hD : va_D (fun q => q ∈ L) (va_pl L f_47) := by rw [ef_47]; exact hD
  have hG : GI (okc cI cL cZ cR cG cH L kd) kd L f_47 := by rw [ef_47]; exact hG.set a_11 (mk_572 ka_11 ⟨_, rfl, okI_up hbg_45 (by constructor <;> omega) _⟩)
  have hfo_48 : f_47 o0 = .inr (7, [.ref a_2, .int v_3, .ref a_4, .ref a_5, .ref a_6, .ref a_7, .int x_30, .ref a_9, .ref a_10, .ref a_11, .ref a_12, .ref a_13, .int v_14, .ref a_15, .ref a_16, .ref a_17]) := by rw [ef_47, up_ne (kd_ne ka_11 ko0 (by decide))]; exact hfo_40
  have hfr0 : ∀ b, kd b ≠ 207 → kd b ≠ 568 → kd b ≠ 569 → kd b ≠ 572 → f_47 b = f b := fun b q207 q568 q569 q572 => (congrFun ef_47 b).trans ((up_ne (fun e9 => q572 (by rw [e9]; exact ka_11))).trans (hfr0 b q207 q568 q569 q572))
  have hfr207_1 : ∀ b, kd b = 207 → fldI (f_47 b) 1 = fldI (f b) 1 := fun b kb => (congrArg (fun x => fldI x 1) ((congrFun ef_47 b).trans (up_ne (kd_ne ka_11 kb (by decide))))).trans (hfr207_1 b kb)
  have hfr207_12 : ∀ b, kd b = 207 → fldI (f_47 b) 12 = fldI (f b) 12 := fun b kb => (congrArg (fun x => fldI x 12) ((congrFun ef_47 b).trans (up_ne (kd_ne ka_11 kb (by decide))))).trans (hfr207_12 b kb)
  have hfo_49 : f_47 a_11 = .inl (cI, 36, .inl (upd g_45 (Int32.toNatClampNeg x_43) x_30)) := by rw [ef_47]; exact up_self
  refine lv_aload_n hx hb dX7_keepPair_59 rfl (lv_at hl 0 rfl) ?_
  refine tk_getP (D := (dC, dI)) (ci := 7) (v := .ref a_12) (C := RX7) (T := TX7) (N := 16) hx hb hU inlX7 hown hK hP mo0 hfo_48 rfl 10 (by decide) (hU _ wd_80) (fun _ h9 => h9) rfl dX7_keepPair_60 ?_
  refine lv_iload_n hx hb dX7_keepPair_63 rfl (lv_at hl 2 rfl) ?_
  refine lv_iconst (v := 4) hx hb dX7_keepPair_64 (by decide) ?_
  refine lv_imul hx hb dX7_keepPair_65 ?_
  refine lv_topi (fun x_50 ex_50 => ?_)
  have hx_50 : x_50.toInt = p2.toInt * 4 := by rw [ex_50, ml_I (by rw [ti_4]; omega) (by rw [ti_4]; omega), ti_4]
  have bx_50 : (0 ≤ x_50.toInt ∧ x_50.toInt ≤ 32) := by constructor <;> omega
  refine lv_iload hx hb dX7_keepPair_66 (lv_at hl 4 rfl) ?_
  refine lv_iadd hx hb dX7_keepPair_68 ?_
  refine lv_topi (fun x_51 ex_51 => ?_)
  have hx_51 : x_51.toInt = x_50.toInt + p4.toInt := by rw [ex_51, ad_I (by omega) (by omega)]
  have bx_51 : (0 ≤ x_51.toInt ∧ x_51.toInt ≤ 35) := by constructor <;> omega
  refine lv_aload_n hx hb dX7_keepPair_69 rfl (lv_at hl 0 rfl) ?_
  refine tk_getP (D := (dC, dI)) (ci := 7) (v := .int x_30) (C := RX7) (T := TX7) (N := 16) hx hb hU inlX7 hown hK hP mo0 hfo_48 rfl 6 (by decide) (hU _ wd_263) (fun _ h9 => h9) rfl dX7_keepPair_70 ?_
  obtain ⟨g_53, hfo_52, hbg_53⟩ := un_572 (hG _ ma_12) ka_12
  refine tk_istP hx hb hK hP hD hS 0 ma_12 hfo_52 rfl (vp_in_iff.mpr (by constructor <;> omega)) dX7_keepPair_73 (fun H locs hP hD hS => ?_)
  obtain ⟨f_55, ef_55⟩ : ∃ y : Nat → va_E, y = va_up f_47 a_12 (.inl (cI, 36, .inl (upd g_53 (Int32.toNatClampNeg x_51) x_30))) := ⟨_, rfl⟩
  have hP : va_P (dC, dI) vwCl (va_pl L f_55) H := by rw [ef_55]; exact hP
  have hD : va_D (fun q => q ∈ L) (va_pl L f_55) := by rw [ef_55]; exact hD
  have hG : GI (okc cI cL cZ cR cG cH L kd) kd L f_55 := by rw [ef_55]; exact hG.set a_12 (mk_572 ka_12 ⟨_, rfl, okI_up hbg_53 (by constructor <;> omega) _⟩)
  have hfo_56 : f_55 o0 = .inr (7, [.ref a_2, .int v_3, .ref a_4, .ref a_5, .ref a_6, .ref a_7, .int x_30, .ref a_9, .ref a_10, .ref a_11, .ref a_12, .ref a_13, .int v_14, .ref a_15, .ref a_16, .ref a_17]) := by rw [ef_55, up_ne (kd_ne ka_12 ko0 (by decide))]; exact hfo_48
  have hfr0 : ∀ b, kd b ≠ 207 → kd b ≠ 568 → kd b ≠ 569 → kd b ≠ 572 → f_55 b = f b := fun b q207 q568 q569 q572 => (congrFun ef_55 b).trans ((up_ne (fun e9 => q572 (by rw [e9]; exact ka_12))).trans (hfr0 b q207 q568 q569 q572))
  have hfr207_1 : ∀ b, kd b = 207 → fldI (f_55 b) 1 = fldI (f b) 1 := fun b kb => (congrArg (fun x => fldI x 1) ((congrFun ef_55 b).trans (up_ne (kd_ne ka_12 kb (by decide))))).trans (hfr207_1 b kb)
  have hfr207_12 : ∀ b, kd b = 207 → fldI (f_55 b) 12 = fldI (f b) 12 := fun b kb => (congrArg (fun x => fldI x 12) ((congrFun ef_55 b).trans (up_ne (kd_ne ka_12 kb (by decide))))).trans (hfr207_12 b kb)
  have hfo_57 : f_55 a_12 = .inl (cI, 36, .inl (upd g_53 (Int32.toNatClampNeg x_51) x_30)) := by rw [ef_55]; exact up_self
  exact W.vret hx hb hr (fun t ht hW => ⟨⟨f_55, rfl, ⟨hG, hfr0, hfr207_1, hfr207_12, (by intro w6 z6 e6 d6; rw [hfo_1] at e6; rw [hfo_56] at d6; obtain rfl := Option.some.inj e6; obtain rfl := Option.some.inj d6; omega)⟩, by rw [ht]; exact hP, va_K.moved hW.alike hK, pl_in hD⟩, hS.F ht⟩) hS.2.2 dX7_keepPair_74
set_option maxHeartbeats 8000000 in
set_option maxRecDepth 100000 in
theorem s_X7_addLetter_k207 (l : Launch) (D : va_G) (cI cL cZ cR cG cH : ClassId) (Z : zT) (kd : Nat → Nat) (L : List Nat) (f : Nat → va_E) (hG : GI (okc cI cL cZ cR cG cH L kd) kd L f) (o0 : Nat) (mo0 : o0 ∈ L) (ko0 : kd o0 = 207) (p1 : Int32) (bp1 : (97 ≤ p1.toInt ∧ p1.toInt ≤ 122)) (hpreo0 : ∀ (w6 : Int32) (w1 : Int32), fldI (f o0) 6 = some w6 → fldI (f o0) 1 = some w1 → w6.toInt - w1.toInt ≤ 12) : mPV l D cI cL cZ cR cG cH Z yX7_addLetter cX7_addLetter 2 none 1 24 [.ref o0, .int p1] L f (fun (f9 : Nat → va_E) => GI (okc cI cL cZ cR cG cH L kd) kd L f9 ∧ (∀ b, kd b ≠ 207 → kd b ≠ 566 → kd b ≠ 568 → kd b ≠ 569 → kd b ≠ 572 → f9 b = f b) ∧ (∀ b, kd b = 207 → fldI (f9 b) 12 = fldI (f b) 12) ∧ (∀ (w6 z6 : Int32) (w1 z1 : Int32), fldI (f o0) 6 = some w6 → fldI (f o0) 1 = some w1 → fldI (f9 o0) 6 = some z6 → fldI (f9 o0) 1 = some z1 → z6.toInt - z1.toInt ≤ 12)) := by
  obtain ⟨dC, dI⟩ := D
  refine Met.ofW (cc := cX7_addLetter) (maxL := 2) (ret := none) (by decide) rfl ?_
  intro p e s m args below meth c s₁ B hml hv
  obtain ⟨rfl, hP, hK, hD0, hN, hZ⟩ := hv
  have hx := B.exec
  have hb := B.bytes
  have hr := B.returns
  have hU : ∀ w ∈ wsU, w.before _ s = true := fun w h => atoms_spec (ws := wU yX7_addLetter cX7_addLetter 2 none) B.pre w (List.mem_cons_of_mem _ h)
  have hown : s.vm.findClass RX7 = some m.cls := findClass_of_methodNamed B.named
  have hlocks := B.notSynchronized
  have hD := pl_in hD0
  have hS : va_S (fun q => q ∈ L) s.heap s.heap [] := va_S.rf
  have hl := lv_entry ([.ref o0, .int p1]) (n := 2) (Nat.le_of_ble_eq_true rfl)
  rw [lg_entry_eq]
  generalize (lg_sl ([.ref o0, .int p1]) ++ List.replicate (2 - (lg_sl ([.ref o0, .int p1])).length) Slot.unset).toArray = ls at hl ⊢
  have hl : lv_has ls 2 [(0, .ref o0), (1, .int p1)] := hl
  have hfr0 : ∀ b, kd b ≠ 207 → kd b ≠ 566 → kd b ≠ 568 → kd b ≠ 569 → kd b ≠ 572 → f b = f b := fun _ _ _ _ _ _ => rfl
  have hfr207_12 : ∀ b, kd b = 207 → fldI (f b) 12 = fldI (f b) 12 := fun _ _ => rfl
  obtain ⟨a_2, v_3, a_4, a_5, a_6, a_7, v_8, a_9, a_10, a_11, a_12, a_13, v_14, a_15, a_16, a_17, hfo_1, ⟨ma_2, ka_2⟩, bv_3, ⟨ma_4, ka_4⟩, ⟨ma_5, ka_5⟩, ⟨ma_6, ka_6⟩, ⟨ma_7, ka_7⟩, bv_8, ⟨ma_9, ka_9⟩, ⟨ma_10, ka_10⟩, ⟨ma_11, ka_11⟩, ⟨ma_12, ka_12⟩, ⟨ma_13, ka_13⟩, bv_14, ⟨ma_15, ka_15⟩, ⟨ma_16, ka_16⟩, ⟨ma_17, ka_17⟩⟩ := un_207 (hG _ mo0) ko0
  have hpo0 := hpreo0 v_8 v_3 (by rw [hfo_1]; rfl) (by rw [hfo_1]; rfl)
  refine lv_aload_n hx hb dX7_addLetter_0 rfl (lv_at hl 0 rfl) ?_
  refine tk_getP (D := (dC, dI)) (ci := 7) (v := .int v_3) (C := RX7) (T := TX7) (N := 16) hx hb hU inlX7 hown hK hP mo0 hfo_1 rfl 1 (by decide) (hU _ wd_262) (fun _ h9 => h9) rfl dX7_addLetter_1 ?_
  refine lv_bipush (v := 8) hx hb dX7_addLetter_4 (by decide) ?_
  have hcut_20 : ∀ (f_19 : Nat → va_E), GI (okc cI cL cZ cR cG cH L kd) kd L f_19 → ∀ (H : Heap) (locs : List Loc), va_P (dC, dI) vwCl (va_pl L f_19) H → va_S (fun q => q ∈ L) s.heap H locs → va_D (fun q => q ∈ L) (va_pl L f_19) → (∀ b, kd b ≠ 207 → kd b ≠ 566 → kd b ≠ 568 → kd b ≠ 569 → kd b ≠ 572 → f_19 b = f b) → (∀ b, kd b = 207 → fldI (f_19 b) 12 = fldI (f b) 12) → ∀ (ls : Array Slot), lv_has ls 2 [(0, .ref o0), (1, .int p1)] → W p l e (headSpec (wU yX7_addLetter cX7_addLetter 2 none) { frames := 1, cells := 0, slots := 0, locals := 24 }).room s m [.ref o0, .int p1].toArray below meth c H locs 0 0 (MQ below (va_Qv (fun (f9 : Nat → va_E) => GI (okc cI cL cZ cR cG cH L kd) kd L f9 ∧ (∀ b, kd b ≠ 207 → kd b ≠ 566 → kd b ≠ 568 → kd b ≠ 569 → kd b ≠ 572 → f9 b = f b) ∧ (∀ b, kd b = 207 → fldI (f9 b) 12 = fldI (f b) 12) ∧ (∀ (w6 z6 : Int32) (w1 z1 : Int32), fldI (f o0) 6 = some w6 → fldI (f o0) 1 = some w1 → fldI (f9 o0) 6 = some z6 → fldI (f9 o0) 1 = some z1 → z6.toInt - z1.toInt ≤ 12)) (qP (dC, dI) cI cL cZ cR cG cH L) (fun q => q ∈ L)) [.ref o0, .int p1].toArray s 0 0 (fun q => q ∈ L)) (F0 m 46 ls []) := by
    intro f_19 hG H locs hP hS hD hfr0 hfr207_12 ls hl
    obtain ⟨a_22, v_23, a_24, a_25, a_26, a_27, v_28, a_29, a_30, a_31, a_32, a_33, v_34, a_35, a_36, a_37, hfo_21, ⟨ma_22, ka_22⟩, bv_23, ⟨ma_24, ka_24⟩, ⟨ma_25, ka_25⟩, ⟨ma_26, ka_26⟩, ⟨ma_27, ka_27⟩, bv_28, ⟨ma_29, ka_29⟩, ⟨ma_30, ka_30⟩, ⟨ma_31, ka_31⟩, ⟨ma_32, ka_32⟩, ⟨ma_33, ka_33⟩, bv_34, ⟨ma_35, ka_35⟩, ⟨ma_36, ka_36⟩, ⟨ma_37, ka_37⟩⟩ := un_207 (hG _ mo0) ko0
    exact W.vret hx hb hr (fun t ht hW => ⟨⟨f_19, rfl, ⟨hG, hfr0, hfr207_12, (by intro w6 z6 w1 z1 e6 e1 d6 d1; rw [hfo_1] at e6 e1; rw [hfo_21] at d6 d1; obtain rfl := Option.some.inj e6; obtain rfl := Option.some.inj d6; obtain rfl := Option.some.inj e1; obtain rfl := Option.some.inj d1; omega)⟩, by rw [ht]; exact hP, va_K.moved hW.alike hK, pl_in hD⟩, hS.F ht⟩) hS.2.2 dX7_addLetter_46
  refine lv_icmp_ge (tgt := 46) hx hb dX7_addLetter_6 (by decide) (fun c_38 => ?_) (fun c_38 => ?_)
  · skip
    rw [Int32.le_iff_toInt_le, ti_8] at c_38
    exact hcut_20 f hG _ _ hP hS hD hfr0 hfr207_12 ls (lv_sub hl [0, 1] rfl)
  · skip
    rw [Int32.le_iff_toInt_le, ti_8] at c_38
    refine lv_aload_n hx hb dX7_addLetter_9 rfl (lv_at hl 0 rfl) ?_
    refine lv_dup hx hb dX7_addLetter_10 rfl ?_
    refine tk_getP (D := (dC, dI)) (ci := 7) (v := .int v_3) (C := RX7) (T := TX7) (N := 16) hx hb hU inlX7 hown hK hP mo0 hfo_1 rfl 1 (by decide) (hU _ wd_262) (fun _ h9 => h9) rfl dX7_addLetter_11 ?_
    refine lv_iconst (v := 1) hx hb dX7_addLetter_14 (by decide) ?_
    refine lv_iadd hx hb dX7_addLetter_15 ?_
    refine lv_topi (fun x_39 ex_39 => ?_)
    have hx_39 : x_39.toInt = v_3.toInt + 1 := by rw [ex_39, ad_I (by rw [ti_1]; omega) (by rw [ti_1]; omega), ti_1]
    have bx_39 : (1 ≤ x_39.toInt ∧ x_39.toInt ≤ 8) := by constructor <;> omega
    refine tk_putP (D := (dC, dI)) (ci := 7) (v := .int x_39) (ty := .int) (C := RX7) (T := TX7) (N := 16) hx hb hU inlX7 tyX7 tyX7_ok nmX7 hown hK hP hD hS mo0 hfo_1 rfl 1 (by decide) (hU _ wd_262) (fun _ h9 => h9) rfl (by decide +kernel) rfl rfl (Nat.le_of_ble_eq_true rfl) dX7_addLetter_16 (fun H locs hP hD hS => ?_)
    obtain ⟨f_41, ef_41⟩ : ∃ y : Nat → va_E, y = va_up f o0 (.inr (7, [.ref a_2, .int x_39, .ref a_4, .ref a_5, .ref a_6, .ref a_7, .int v_8, .ref a_9, .ref a_10, .ref a_11, .ref a_12, .ref a_13, .int v_14, .ref a_15, .ref a_16, .ref a_17])) := ⟨_, rfl⟩
    have hP : va_P (dC, dI) vwCl (va_pl L f_41) H := by rw [ef_41]; exact hP
    have hD : va_D (fun q => q ∈ L) (va_pl L f_41) := by rw [ef_41]; exact hD
    have hG : GI (okc cI cL cZ cR cG cH L kd) kd L f_41 := by rw [ef_41]; exact hG.set o0 (mk_207 ko0 ⟨a_2, x_39, a_4, a_5, a_6, a_7, v_8, a_9, a_10, a_11, a_12, a_13, v_14, a_15, a_16, a_17, rfl, ⟨ma_2, ka_2⟩, (by constructor <;> omega), ⟨ma_4, ka_4⟩, ⟨ma_5, ka_5⟩, ⟨ma_6, ka_6⟩, ⟨ma_7, ka_7⟩, (by constructor <;> omega), ⟨ma_9, ka_9⟩, ⟨ma_10, ka_10⟩, ⟨ma_11, ka_11⟩, ⟨ma_12, ka_12⟩, ⟨ma_13, ka_13⟩, (by constructor <;> omega), ⟨ma_15, ka_15⟩, ⟨ma_16, ka_16⟩, ⟨ma_17, ka_17⟩⟩)
    have hfr0 : ∀ b, kd b ≠ 207 → kd b ≠ 566 → kd b ≠ 568 → kd b ≠ 569 → kd b ≠ 572 → f_41 b = f b := fun b q207 q566 q568 q569 q572 => (congrFun ef_41 b).trans ((up_ne (fun e9 => q207 (by rw [e9]; exact ko0))).trans (hfr0 b q207 q566 q568 q569 q572))
    have hfr207_12 : ∀ b, kd b = 207 → fldI (f_41 b) 12 = fldI (f b) 12 := fun b kb => ((congrArg (fun x => fldI x 12) (congrFun ef_41 b)).trans (fk_up (by rw [hfo_1]; rfl) b)).trans (hfr207_12 b kb)
    have hfo_42 : f_41 o0 = .inr (7, [.ref a_2, .int x_39, .ref a_4, .ref a_5, .ref a_6, .ref a_7, .int v_8, .ref a_9, .ref a_10, .ref a_11, .ref a_12, .ref a_13, .int v_14, .ref a_15, .ref a_16, .ref a_17]) := by rw [ef_41]; exact up_self
    refine lv_aload_n hx hb dX7_addLetter_19 rfl (lv_at hl 0 rfl) ?_
    refine tk_getP (D := (dC, dI)) (ci := 7) (v := .ref a_2) (C := RX7) (T := TX7) (N := 16) hx hb hU inlX7 hown hK hP mo0 hfo_42 rfl 0 (by decide) (hU _ wd_72) (fun _ h9 => h9) rfl dX7_addLetter_20 ?_
    refine lv_iload_n hx hb dX7_addLetter_23 rfl (lv_at hl 1 rfl) ?_
    refine lv_bipush (v := 97) hx hb dX7_addLetter_24 (by decide) ?_
    refine lv_isub hx hb dX7_addLetter_26 ?_
    refine lv_topi (fun x_43 ex_43 => ?_)
    have hx_43 : x_43.toInt = p1.toInt - 97 := by rw [ex_43, sb_I (by rw [ti_97]; omega) (by rw [ti_97]; omega), ti_97]
    have bx_43 : (0 ≤ x_43.toInt ∧ x_43.toInt ≤ 25) := by constructor <;> omega
    refine lv_aload_n hx hb dX7_addLetter_27 rfl (lv_at hl 0 rfl) ?_
    refine tk_getP (D := (dC, dI)) (ci := 7) (v := .int x_39) (C := RX7) (T := TX7) (N := 16) hx hb hU inlX7 hown hK hP mo0 hfo_42 rfl 1 (by decide) (hU _ wd_262) (fun _ h9 => h9) rfl dX7_addLetter_28 ?_
    obtain ⟨g_45, hfo_44, hbg_45⟩ := un_566 (hG _ ma_2) ka_2
    refine tk_istP hx hb hK hP hD hS 0 ma_2 hfo_44 rfl (vp_in_iff.mpr (by constructor <;> omega)) dX7_addLetter_31 (fun H locs hP hD hS => ?_)
    obtain ⟨f_47, ef_47⟩ : ∃ y : Nat → va_E, y = va_up f_41 a_2 (.inl (cI, 26, .inl (upd g_45 (Int32.toNatClampNeg x_43) x_39))) := ⟨_, rfl⟩
    have hP : va_P (dC, dI) vwCl (va_pl L f_47) H := by rw [ef_47]; exact hP
    have hD : va_D (fun q => q ∈ L) (va_pl L f_47) := by rw [ef_47]; exact hD
    have hG : GI (okc cI cL cZ cR cG cH L kd) kd L f_47 := by rw [ef_47]; exact hG.set a_2 (mk_566 ka_2 ⟨_, rfl, okI_up hbg_45 (by constructor <;> omega) _⟩)
    have hfo_48 : f_47 o0 = .inr (7, [.ref a_2, .int x_39, .ref a_4, .ref a_5, .ref a_6, .ref a_7, .int v_8, .ref a_9, .ref a_10, .ref a_11, .ref a_12, .ref a_13, .int v_14, .ref a_15, .ref a_16, .ref a_17]) := by rw [ef_47, up_ne (kd_ne ka_2 ko0 (by decide))]; exact hfo_42
    have hfr0 : ∀ b, kd b ≠ 207 → kd b ≠ 566 → kd b ≠ 568 → kd b ≠ 569 → kd b ≠ 572 → f_47 b = f b := fun b q207 q566 q568 q569 q572 => (congrFun ef_47 b).trans ((up_ne (fun e9 => q566 (by rw [e9]; exact ka_2))).trans (hfr0 b q207 q566 q568 q569 q572))
    have hfr207_12 : ∀ b, kd b = 207 → fldI (f_47 b) 12 = fldI (f b) 12 := fun b kb => (congrArg (fun x => fldI x 12) ((congrFun ef_47 b).trans (up_ne (kd_ne ka_2 kb (by decide))))).trans (hfr207_12 b kb)
    have hfo_49 : f_47 a_2 = .inl (cI, 26, .inl (upd g_45 (Int32.toNatClampNeg x_43) x_39)) := by rw [ef_47]; exact up_self
    refine lv_aload_n hx hb dX7_addLetter_32 rfl (lv_at hl 0 rfl) ?_
    refine lv_aload_n hx hb dX7_addLetter_33 rfl (lv_at hl 0 rfl) ?_
    refine tk_getP (D := (dC, dI)) (ci := 7) (v := .int x_39) (C := RX7) (T := TX7) (N := 16) hx hb hU inlX7 hown hK hP mo0 hfo_48 rfl 1 (by decide) (hU _ wd_262) (fun _ h9 => h9) rfl dX7_addLetter_34 ?_
    refine lv_aload_n hx hb dX7_addLetter_37 rfl (lv_at hl 0 rfl) ?_
    refine tk_getP (D := (dC, dI)) (ci := 7) (v := .int x_39) (C := RX7) (T := TX7) (N := 16) hx hb hU inlX7 hown hK hP mo0 hfo_48 rfl 1 (by decide) (hU _ wd_262) (fun _ h9 => h9) rfl dX7_addLetter_38 ?_
    refine lv_iconst (v := 0) hx hb dX7_addLetter_41 (by decide) ?_
    refine lv_iconst (v := 0) hx hb dX7_addLetter_42 (by decide) ?_
    refine tk_VvP (As := [.int x_39, .int x_39, .int 0, .int 0]) (rest := []) (n := 4) hx hb hml hown hU hN hZ (s_X7_keepPair_k207 l (dC, dI) cI cL cZ cR cG cH Z kd L f_47 hG o0 mo0 ko0 x_39 (by constructor <;> omega) x_39 (by constructor <;> omega) 0 (by decide) 0 (by decide) (by intro w6 w1 e6 e1; rw [hfo_48] at e6 e1; obtain rfl := Option.some.inj e6; obtain rfl := Option.some.inj e1; omega)) wd_357 wd_358 wd_359 wd_28 wd_360 (by decide +kernel) ⟨Nat.le_of_ble_eq_true rfl, Nat.le_of_ble_eq_true rfl⟩ hK hP hD hS mo0 hfo_48 7 rfl rfl rfl hl.1 rfl (Nat.le_of_ble_eq_true rfl) dX7_addLetter_43 ⟨Nat.le_of_ble_eq_true rfl, Nat.le_of_ble_eq_true rfl⟩ (fun f_51 H locs hw hP hD hS => ?_)
    obtain ⟨hG, hkc_52, hfc_53, hfc_54, hpost_55⟩ := hw
    have hfr0 : ∀ b, kd b ≠ 207 → kd b ≠ 566 → kd b ≠ 568 → kd b ≠ 569 → kd b ≠ 572 → f_51 b = f b := fun b q207 q566 q568 q569 q572 => (hkc_52 b q207 q568 q569 q572).trans (hfr0 b q207 q566 q568 q569 q572)
    have hfr207_12 : ∀ b, kd b = 207 → fldI (f_51 b) 12 = fldI (f b) 12 := fun b kb => (hfc_54 b kb).trans (hfr207_12 b kb)
    obtain ⟨a_58, v_59, a_60, a_61, a_62, a_63, v_64, a_65, a_66, a_67, a_68, a_69, v_70, a_71, a_72, a_73, hfo_57, ⟨ma_58, ka_58⟩, bv_59, ⟨ma_60, ka_60⟩, ⟨ma_61, ka_61⟩, ⟨ma_62, ka_62⟩, ⟨ma_63, ka_63⟩, bv_64, ⟨ma_65, ka_65⟩, ⟨ma_66, ka_66⟩, ⟨ma_67, ka_67⟩, ⟨ma_68, ka_68⟩, ⟨ma_69, ka_69⟩, bv_70, ⟨ma_71, ka_71⟩, ⟨ma_72, ka_72⟩, ⟨ma_73, ka_73⟩⟩ := un_207 (hG _ mo0) ko0
    obtain rfl : x_39 = v_59 := by have hk9 := hfc_53 o0 ko0; rw [hfo_57, hfo_48] at hk9; exact (Option.some.inj hk9).symm
    obtain rfl : v_14 = v_70 := by have hk9 := hfc_54 o0 ko0; rw [hfo_57, hfo_48] at hk9; exact (Option.some.inj hk9).symm
    have hqhpost_55 := hpost_55 v_8 v_64 (by rw [hfo_48]; rfl) (by rw [hfo_57]; rfl)
    try rw [ti_0] at hqhpost_55
    exact hcut_20 f_51 hG _ _ hP hS hD hfr0 hfr207_12 ls (lv_sub hl [0, 1] rfl)
set_option maxHeartbeats 8000000 in
set_option maxRecDepth 100000 in
theorem s_X7_addPair_k207 (l : Launch) (D : va_G) (cI cL cZ cR cG cH : ClassId) (Z : zT) (kd : Nat → Nat) (L : List Nat) (f : Nat → va_E) (hG : GI (okc cI cL cZ cR cG cH L kd) kd L f) (o0 : Nat) (mo0 : o0 ∈ L) (ko0 : kd o0 = 207) (p1 : Int32) (bp1 : (0 ≤ p1.toInt ∧ p1.toInt ≤ 8)) (p2 : Int32) (bp2 : (0 ≤ p2.toInt ∧ p2.toInt ≤ 8)) : mPI l D cI cL cZ cR cG cH Z yX7_addPair cX7_addPair 4 (some .boolean) 1 24 [.ref o0, .int p1, .int p2] L f (fun (r : Int32) (f9 : Nat → va_E) => GI (okc cI cL cZ cR cG cH L kd) kd L f9 ∧ (0 ≤ r.toInt ∧ r.toInt ≤ 1) ∧ (∀ b, kd b ≠ 207 → kd b ≠ 568 → kd b ≠ 569 → kd b ≠ 570 → kd b ≠ 571 → kd b ≠ 572 → f9 b = f b) ∧ (∀ b, kd b = 207 → fldI (f9 b) 1 = fldI (f b) 1) ∧ (∀ b, kd b = 207 → fldI (f9 b) 12 = fldI (f b) 12) ∧ (∀ (w6 z6 : Int32) (w1 z1 : Int32), fldI (f o0) 6 = some w6 → fldI (f o0) 1 = some w1 → fldI (f9 o0) 6 = some z6 → fldI (f9 o0) 1 = some z1 → z1.toInt = w1.toInt ∧ (z6.toInt = w6.toInt ∨ z6.toInt - z1.toInt ≤ 12))) := by
  obtain ⟨dC, dI⟩ := D
  refine Met.ofW (cc := cX7_addPair) (maxL := 4) (ret := (some .boolean)) (by decide) rfl ?_
  intro p e s m args below meth c s₁ B hml hv
  obtain ⟨rfl, hP, hK, hD0, hN, hZ⟩ := hv
  have hx := B.exec
  have hb := B.bytes
  have hr := B.returns
  have hU : ∀ w ∈ wsU, w.before _ s = true := fun w h => atoms_spec (ws := wU yX7_addPair cX7_addPair 4 (some .boolean)) B.pre w (List.mem_cons_of_mem _ h)
  have hown : s.vm.findClass RX7 = some m.cls := findClass_of_methodNamed B.named
  have hlocks := B.notSynchronized
  have hD := pl_in hD0
  have hS : va_S (fun q => q ∈ L) s.heap s.heap [] := va_S.rf
  have hl := lv_entry ([.ref o0, .int p1, .int p2]) (n := 4) (Nat.le_of_ble_eq_true rfl)
  rw [lg_entry_eq]
  generalize (lg_sl ([.ref o0, .int p1, .int p2]) ++ List.replicate (4 - (lg_sl ([.ref o0, .int p1, .int p2])).length) Slot.unset).toArray = ls at hl ⊢
  have hl : lv_has ls 4 [(0, .ref o0), (1, .int p1), (2, .int p2)] := hl
  have hfr0 : ∀ b, kd b ≠ 207 → kd b ≠ 568 → kd b ≠ 569 → kd b ≠ 570 → kd b ≠ 571 → kd b ≠ 572 → f b = f b := fun _ _ _ _ _ _ _ => rfl
  have hfr207_1 : ∀ b, kd b = 207 → fldI (f b) 1 = fldI (f b) 1 := fun _ _ => rfl
  have hfr207_12 : ∀ b, kd b = 207 → fldI (f b) 12 = fldI (f b) 12 := fun _ _ => rfl
  obtain ⟨a_2, v_3, a_4, a_5, a_6, a_7, v_8, a_9, a_10, a_11, a_12, a_13, v_14, a_15, a_16, a_17, hfo_1, ⟨ma_2, ka_2⟩, bv_3, ⟨ma_4, ka_4⟩, ⟨ma_5, ka_5⟩, ⟨ma_6, ka_6⟩, ⟨ma_7, ka_7⟩, bv_8, ⟨ma_9, ka_9⟩, ⟨ma_10, ka_10⟩, ⟨ma_11, ka_11⟩, ⟨ma_12, ka_12⟩, ⟨ma_13, ka_13⟩, bv_14, ⟨ma_15, ka_15⟩, ⟨ma_16, ka_16⟩, ⟨ma_17, ka_17⟩⟩ := un_207 (hG _ mo0) ko0
  refine lv_aload_n hx hb dX7_addPair_0 rfl (lv_at hl 0 rfl) ?_
  refine lv_iload_n hx hb dX7_addPair_1 rfl (lv_at hl 1 rfl) ?_
  refine lv_iload_n hx hb dX7_addPair_2 rfl (lv_at hl 2 rfl) ?_
  refine tk_ViP (As := [.int p1, .int p2]) (rest := []) (n := 2) hx hb hml hown hU hN hZ (s_X7_pairOf_k207 l (dC, dI) cI cL cZ cR cG cH Z kd L f hG o0 mo0 ko0 p1 p2) wd_392 wd_393 wd_394 wd_28 wd_395 (by decide +kernel) ⟨Nat.le_of_ble_eq_true rfl, Nat.le_of_ble_eq_true rfl⟩ hK hP hD hS mo0 hfo_1 7 rfl rfl rfl hl.1 rfl (Nat.le_of_ble_eq_true rfl) dX7_addPair_3 ⟨Nat.le_of_ble_eq_true rfl, Nat.le_of_ble_eq_true rfl⟩ (fun x_18 f_19 H locs hw hP hD hS => ?_)
  obtain ⟨rfl, bx_18⟩ := hw
  refine lv_iconst (v := (-1)) hx hb dX7_addPair_6 (by decide) ?_
  refine lv_icmp_eq (tgt := 12) hx hb dX7_addPair_7 (by decide) (fun c_21 => ?_) (fun c_21 => ?_)
  · skip
    rw [← Int32.toInt_inj, ti_m1] at c_21
    refine lv_aload_n hx hb dX7_addPair_12 rfl (lv_at hl 0 rfl) ?_
    refine tk_getP (D := (dC, dI)) (ci := 7) (v := .int v_8) (C := RX7) (T := TX7) (N := 16) hx hb hU inlX7 hown hK hP mo0 hfo_1 rfl 6 (by decide) (hU _ wd_263) (fun _ h9 => h9) rfl dX7_addPair_13 ?_
    refine lv_aload_n hx hb dX7_addPair_16 rfl (lv_at hl 0 rfl) ?_
    refine tk_getP (D := (dC, dI)) (ci := 7) (v := .int v_3) (C := RX7) (T := TX7) (N := 16) hx hb hU inlX7 hown hK hP mo0 hfo_1 rfl 1 (by decide) (hU _ wd_262) (fun _ h9 => h9) rfl dX7_addPair_17 ?_
    refine lv_isub hx hb dX7_addPair_20 ?_
    refine lv_topi (fun x_22 ex_22 => ?_)
    have hx_22 : x_22.toInt = v_8.toInt - v_3.toInt := by rw [ex_22, sb_I (by omega) (by omega)]
    have bx_22 : ((-8) ≤ x_22.toInt ∧ x_22.toInt ≤ 20) := by constructor <;> omega
    refine lv_bipush (v := 12) hx hb dX7_addPair_21 (by decide) ?_
    refine lv_icmp_lt (tgt := 30) hx hb dX7_addPair_23 (by decide) (fun c_23 => ?_) (fun c_23 => ?_)
    · skip
      rw [Int32.lt_iff_toInt_lt, ti_12] at c_23
      refine lv_iconst (v := 0) hx hb dX7_addPair_30 (by decide) ?_
      refine lv_istore_n (lv' := [(3, .int 0), (0, .ref o0), (1, .int p1), (2, .int p2)]) hx hb dX7_addPair_31 rfl hl (by decide) rfl (fun ls hl => ?_)
      refine lv_iload_n hx hb dX7_addPair_32 rfl (lv_at hl 0 rfl) ?_
      refine lv_if_ne (tgt := 56) hx hb dX7_addPair_33 (by decide) (fun c9 => absurd (by decide) c9) (fun _ => ?_)
      refine lv_aload_n hx hb dX7_addPair_36 rfl (lv_at hl 1 rfl) ?_
      refine tk_getP (D := (dC, dI)) (ci := 7) (v := .ref a_9) (C := RX7) (T := TX7) (N := 16) hx hb hU inlX7 hown hK hP mo0 hfo_1 rfl 7 (by decide) (hU _ wd_77) (fun _ h9 => h9) rfl dX7_addPair_37 ?_
      refine lv_iload_n hx hb dX7_addPair_40 rfl (lv_at hl 2 rfl) ?_
      obtain ⟨g_25, hfo_24, hbg_25⟩ := un_570 (hG _ ma_9) ka_9
      refine tk_ildP hx hb hK hP 0 ma_9 hfo_24 rfl (vp_in_iff.mpr (by constructor <;> omega)) dX7_addPair_41 ?_
      refine lv_topi (fun x_26 ex_26 => ?_)
      have bx_26 : (0 ≤ x_26.toInt ∧ x_26.toInt ≤ 3) := by rw [ex_26]; exact hbg_25 _
      refine lv_iconst (v := 3) hx hb dX7_addPair_42 (by decide) ?_
      refine lv_icmp_ge (tgt := 56) hx hb dX7_addPair_43 (by decide) (fun c_27 => ?_) (fun c_27 => ?_)
      · skip
        rw [Int32.le_iff_toInt_le, ti_3] at c_27
        refine lv_iconst (v := 0) hx hb dX7_addPair_56 (by decide) ?_
        exact W.zret (v := 0) (ty := .boolean) hx hb hr rfl (fun t ht hW => ⟨⟨0, f, rfl, ⟨hG, (by decide), hfr0, hfr207_1, hfr207_12, (by intro w6 z6 w1 z1 e6 e1 d6 d1; rw [hfo_1] at e6 e1; rw [hfo_1] at d6 d1; obtain rfl := Option.some.inj e6; obtain rfl := Option.some.inj d6; obtain rfl := Option.some.inj e1; obtain rfl := Option.some.inj d1; (try rw [ti_0]) <;> omega)⟩, by rw [ht]; exact hP, va_K.moved hW.alike hK, pl_in hD⟩, hS.F ht⟩) hS.2.2 dX7_addPair_57
      · skip
        rw [Int32.le_iff_toInt_le, ti_3] at c_27
        refine lv_aload_n hx hb dX7_addPair_46 rfl (lv_at hl 1 rfl) ?_
        refine tk_getP (D := (dC, dI)) (ci := 7) (v := .ref a_10) (C := RX7) (T := TX7) (N := 16) hx hb hU inlX7 hown hK hP mo0 hfo_1 rfl 8 (by decide) (hU _ wd_78) (fun _ h9 => h9) rfl dX7_addPair_47 ?_
        refine lv_iload_n hx hb dX7_addPair_50 rfl (lv_at hl 3 rfl) ?_
        obtain ⟨g_29, hfo_28, hbg_29⟩ := un_571 (hG _ ma_10) ka_10
        refine tk_ildP hx hb hK hP 0 ma_10 hfo_28 rfl (vp_in_iff.mpr (by constructor <;> omega)) dX7_addPair_51 ?_
        refine lv_topi (fun x_30 ex_30 => ?_)
        have bx_30 : (0 ≤ x_30.toInt ∧ x_30.toInt ≤ 3) := by rw [ex_30]; exact hbg_29 _
        refine lv_iconst (v := 3) hx hb dX7_addPair_52 (by decide) ?_
        refine lv_icmp_lt (tgt := 58) hx hb dX7_addPair_53 (by decide) (fun c_31 => ?_) (fun c_31 => ?_)
        · skip
          rw [Int32.lt_iff_toInt_lt, ti_3] at c_31
          refine lv_aload_n hx hb dX7_addPair_58 rfl (lv_at hl 1 rfl) ?_
          refine tk_getP (D := (dC, dI)) (ci := 7) (v := .ref a_9) (C := RX7) (T := TX7) (N := 16) hx hb hU inlX7 hown hK hP mo0 hfo_1 rfl 7 (by decide) (hU _ wd_77) (fun _ h9 => h9) rfl dX7_addPair_59 ?_
          refine lv_iload_n hx hb dX7_addPair_62 rfl (lv_at hl 2 rfl) ?_
          refine lv_dup2_11 hx hb dX7_addPair_63 rfl rfl ?_
          refine tk_ildP hx hb hK hP 0 ma_9 hfo_24 rfl (vp_in_iff.mpr (by constructor <;> omega)) dX7_addPair_64 ?_
          refine tk_topi (y := x_26) ex_26.symm ?_
          refine lv_iconst (v := 1) hx hb dX7_addPair_65 (by decide) ?_
          refine lv_iadd hx hb dX7_addPair_66 ?_
          refine lv_topi (fun x_32 ex_32 => ?_)
          have hx_32 : x_32.toInt = x_26.toInt + 1 := by rw [ex_32, ad_I (by rw [ti_1]; omega) (by rw [ti_1]; omega), ti_1]
          have bx_32 : (1 ≤ x_32.toInt ∧ x_32.toInt ≤ 3) := by constructor <;> omega
          refine tk_istP hx hb hK hP hD hS 0 ma_9 hfo_24 rfl (vp_in_iff.mpr (by constructor <;> omega)) dX7_addPair_67 (fun H locs hP hD hS => ?_)
          obtain ⟨f_34, ef_34⟩ : ∃ y : Nat → va_E, y = va_up f a_9 (.inl (cI, 9, .inl (upd g_25 (Int32.toNatClampNeg p1) x_32))) := ⟨_, rfl⟩
          have hP : va_P (dC, dI) vwCl (va_pl L f_34) H := by rw [ef_34]; exact hP
          have hD : va_D (fun q => q ∈ L) (va_pl L f_34) := by rw [ef_34]; exact hD
          have hG : GI (okc cI cL cZ cR cG cH L kd) kd L f_34 := by rw [ef_34]; exact hG.set a_9 (mk_570 ka_9 ⟨_, rfl, okI_up hbg_25 (by constructor <;> omega) _⟩)
          have hfo_35 : f_34 o0 = .inr (7, [.ref a_2, .int v_3, .ref a_4, .ref a_5, .ref a_6, .ref a_7, .int v_8, .ref a_9, .ref a_10, .ref a_11, .ref a_12, .ref a_13, .int v_14, .ref a_15, .ref a_16, .ref a_17]) := by rw [ef_34, up_ne (kd_ne ka_9 ko0 (by decide))]; exact hfo_1
          have hfo_36 : f_34 a_10 = .inl (cI, 9, .inl g_29) := by rw [ef_34, up_ne (kd_ne ka_9 ka_10 (by decide))]; exact hfo_28
          have hfr0 : ∀ b, kd b ≠ 207 → kd b ≠ 568 → kd b ≠ 569 → kd b ≠ 570 → kd b ≠ 571 → kd b ≠ 572 → f_34 b = f b := fun b q207 q568 q569 q570 q571 q572 => (congrFun ef_34 b).trans ((up_ne (fun e9 => q570 (by rw [e9]; exact ka_9))).trans (hfr0 b q207 q568 q569 q570 q571 q572))
          have hfr207_1 : ∀ b, kd b = 207 → fldI (f_34 b) 1 = fldI (f b) 1 := fun b kb => (congrArg (fun x => fldI x 1) ((congrFun ef_34 b).trans (up_ne (kd_ne ka_9 kb (by decide))))).trans (hfr207_1 b kb)
          have hfr207_12 : ∀ b, kd b = 207 → fldI (f_34 b) 12 = fldI (f b) 12 := fun b kb => (congrArg (fun x => fldI x 12) ((congrFun ef_34 b).trans (up_ne (kd_ne ka_9 kb (by decide))))).trans (hfr207_12 b kb)
          have hfo_37 : f_34 a_9 = .inl (cI, 9, .inl (upd g_25 (Int32.toNatClampNeg p1) x_32)) := by rw [ef_34]; exact up_self
          refine lv_aload_n hx hb dX7_addPair_68 rfl (lv_at hl 1 rfl) ?_
          refine tk_getP (D := (dC, dI)) (ci := 7) (v := .ref a_10) (C := RX7) (T := TX7) (N := 16) hx hb hU inlX7 hown hK hP mo0 hfo_35 rfl 8 (by decide) (hU _ wd_78) (fun _ h9 => h9) rfl dX7_addPair_69 ?_
          refine lv_iload_n hx hb dX7_addPair_72 rfl (lv_at hl 3 rfl) ?_
          refine lv_dup2_11 hx hb dX7_addPair_73 rfl rfl ?_
          refine tk_ildP hx hb hK hP 0 ma_10 hfo_36 rfl (vp_in_iff.mpr (by constructor <;> omega)) dX7_addPair_74 ?_
          refine tk_topi (y := x_30) ex_30.symm ?_
          refine lv_iconst (v := 1) hx hb dX7_addPair_75 (by decide) ?_
          refine lv_iadd hx hb dX7_addPair_76 ?_
          refine lv_topi (fun x_38 ex_38 => ?_)
          have hx_38 : x_38.toInt = x_30.toInt + 1 := by rw [ex_38, ad_I (by rw [ti_1]; omega) (by rw [ti_1]; omega), ti_1]
          have bx_38 : (1 ≤ x_38.toInt ∧ x_38.toInt ≤ 3) := by constructor <;> omega
          refine tk_istP hx hb hK hP hD hS 0 ma_10 hfo_36 rfl (vp_in_iff.mpr (by constructor <;> omega)) dX7_addPair_77 (fun H locs hP hD hS => ?_)
          obtain ⟨f_40, ef_40⟩ : ∃ y : Nat → va_E, y = va_up f_34 a_10 (.inl (cI, 9, .inl (upd g_29 (Int32.toNatClampNeg p2) x_38))) := ⟨_, rfl⟩
          have hP : va_P (dC, dI) vwCl (va_pl L f_40) H := by rw [ef_40]; exact hP
          have hD : va_D (fun q => q ∈ L) (va_pl L f_40) := by rw [ef_40]; exact hD
          have hG : GI (okc cI cL cZ cR cG cH L kd) kd L f_40 := by rw [ef_40]; exact hG.set a_10 (mk_571 ka_10 ⟨_, rfl, okI_up hbg_29 (by constructor <;> omega) _⟩)
          have hfo_41 : f_40 o0 = .inr (7, [.ref a_2, .int v_3, .ref a_4, .ref a_5, .ref a_6, .ref a_7, .int v_8, .ref a_9, .ref a_10, .ref a_11, .ref a_12, .ref a_13, .int v_14, .ref a_15, .ref a_16, .ref a_17]) := by rw [ef_40, up_ne (kd_ne ka_10 ko0 (by decide))]; exact hfo_35
          have hfr0 : ∀ b, kd b ≠ 207 → kd b ≠ 568 → kd b ≠ 569 → kd b ≠ 570 → kd b ≠ 571 → kd b ≠ 572 → f_40 b = f b := fun b q207 q568 q569 q570 q571 q572 => (congrFun ef_40 b).trans ((up_ne (fun e9 => q571 (by rw [e9]; exact ka_10))).trans (hfr0 b q207 q568 q569 q570 q571 q572))
          have hfr207_1 : ∀ b, kd b = 207 → fldI (f_40 b) 1 = fldI (f b) 1 := fun b kb => (congrArg (fun x => fldI x 1) ((congrFun ef_40 b).trans (up_ne (kd_ne ka_10 kb (by decide))))).trans (hfr207_1 b kb)
          have hfr207_12 : ∀ b, kd b = 207 → fldI (f_40 b) 12 = fldI (f b) 12 := fun b kb => (congrArg (fun x => fldI x 12) ((congrFun ef_40 b).trans (up_ne (kd_ne ka_10 kb (by decide))))).trans (hfr207_12 b kb)
          have hfo_42 : f_40 a_10 = .inl (cI, 9, .inl (upd g_29 (Int32.toNatClampNeg p2) x_38)) := by rw [ef_40]; exact up_self
          refine lv_aload_n hx hb dX7_addPair_78 rfl (lv_at hl 1 rfl) ?_
          refine lv_iload_n hx hb dX7_addPair_79 rfl (lv_at hl 2 rfl) ?_
          refine lv_iload_n hx hb dX7_addPair_80 rfl (lv_at hl 3 rfl) ?_
          refine lv_aload_n hx hb dX7_addPair_81 rfl (lv_at hl 1 rfl) ?_
          refine tk_getP (D := (dC, dI)) (ci := 7) (v := .ref a_9) (C := RX7) (T := TX7) (N := 16) hx hb hU inlX7 hown hK hP mo0 hfo_41 rfl 7 (by decide) (hU _ wd_77) (fun _ h9 => h9) rfl dX7_addPair_82 ?_
          refine lv_iload_n hx hb dX7_addPair_85 rfl (lv_at hl 2 rfl) ?_
          obtain ⟨g_44, hfo_43, hbg_44⟩ := un_570 (hG _ ma_9) ka_9
          refine tk_ildP hx hb hK hP 0 ma_9 hfo_43 rfl (vp_in_iff.mpr (by constructor <;> omega)) dX7_addPair_86 ?_
          refine lv_topi (fun x_45 ex_45 => ?_)
          have bx_45 : (0 ≤ x_45.toInt ∧ x_45.toInt ≤ 3) := by rw [ex_45]; exact hbg_44 _
          refine lv_aload_n hx hb dX7_addPair_87 rfl (lv_at hl 1 rfl) ?_
          refine tk_getP (D := (dC, dI)) (ci := 7) (v := .ref a_10) (C := RX7) (T := TX7) (N := 16) hx hb hU inlX7 hown hK hP mo0 hfo_41 rfl 8 (by decide) (hU _ wd_78) (fun _ h9 => h9) rfl dX7_addPair_88 ?_
          refine lv_iload_n hx hb dX7_addPair_91 rfl (lv_at hl 3 rfl) ?_
          obtain ⟨g_47, hfo_46, hbg_47⟩ := un_571 (hG _ ma_10) ka_10
          refine tk_ildP hx hb hK hP 0 ma_10 hfo_46 rfl (vp_in_iff.mpr (by constructor <;> omega)) dX7_addPair_92 ?_
          refine lv_topi (fun x_48 ex_48 => ?_)
          have bx_48 : (0 ≤ x_48.toInt ∧ x_48.toInt ≤ 3) := by rw [ex_48]; exact hbg_47 _
          refine tk_VvP (As := [.int p1, .int p2, .int x_45, .int x_48]) (rest := []) (n := 4) hx hb hml hown hU hN hZ (s_X7_keepPair_k207 l (dC, dI) cI cL cZ cR cG cH Z kd L f_40 hG o0 mo0 ko0 p1 (by constructor <;> omega) p2 (by constructor <;> omega) x_45 (by constructor <;> omega) x_48 (by constructor <;> omega) (by intro w6 w1 e6 e1; rw [hfo_41] at e6 e1; obtain rfl := Option.some.inj e6; obtain rfl := Option.some.inj e1; omega)) wd_357 wd_358 wd_359 wd_28 wd_360 (by decide +kernel) ⟨Nat.le_of_ble_eq_true rfl, Nat.le_of_ble_eq_true rfl⟩ hK hP hD hS mo0 hfo_41 7 rfl rfl rfl hl.1 rfl (Nat.le_of_ble_eq_true rfl) dX7_addPair_93 ⟨Nat.le_of_ble_eq_true rfl, Nat.le_of_ble_eq_true rfl⟩ (fun f_50 H locs hw hP hD hS => ?_)
          obtain ⟨hG, hkc_51, hfc_52, hfc_53, hpost_54⟩ := hw
          have hfo_56 : f_50 a_9 = .inl (cI, 9, .inl g_44) := by rw [hkc_51 a_9 (by rw [ka_9]; decide) (by rw [ka_9]; decide) (by rw [ka_9]; decide) (by rw [ka_9]; decide)]; exact hfo_43
          have hfo_57 : f_50 a_10 = .inl (cI, 9, .inl g_47) := by rw [hkc_51 a_10 (by rw [ka_10]; decide) (by rw [ka_10]; decide) (by rw [ka_10]; decide) (by rw [ka_10]; decide)]; exact hfo_46
          have hfr0 : ∀ b, kd b ≠ 207 → kd b ≠ 568 → kd b ≠ 569 → kd b ≠ 570 → kd b ≠ 571 → kd b ≠ 572 → f_50 b = f b := fun b q207 q568 q569 q570 q571 q572 => (hkc_51 b q207 q568 q569 q572).trans (hfr0 b q207 q568 q569 q570 q571 q572)
          have hfr207_1 : ∀ b, kd b = 207 → fldI (f_50 b) 1 = fldI (f b) 1 := fun b kb => (hfc_52 b kb).trans (hfr207_1 b kb)
          have hfr207_12 : ∀ b, kd b = 207 → fldI (f_50 b) 12 = fldI (f b) 12 := fun b kb => (hfc_53 b kb).trans (hfr207_12 b kb)
          obtain ⟨a_59, v_60, a_61, a_62, a_63, a_64, v_65, a_66, a_67, a_68, a_69, a_70, v_71, a_72, a_73, a_74, hfo_58, ⟨ma_59, ka_59⟩, bv_60, ⟨ma_61, ka_61⟩, ⟨ma_62, ka_62⟩, ⟨ma_63, ka_63⟩, ⟨ma_64, ka_64⟩, bv_65, ⟨ma_66, ka_66⟩, ⟨ma_67, ka_67⟩, ⟨ma_68, ka_68⟩, ⟨ma_69, ka_69⟩, ⟨ma_70, ka_70⟩, bv_71, ⟨ma_72, ka_72⟩, ⟨ma_73, ka_73⟩, ⟨ma_74, ka_74⟩⟩ := un_207 (hG _ mo0) ko0
          obtain rfl : v_3 = v_60 := by have hk9 := hfc_52 o0 ko0; rw [hfo_58, hfo_41] at hk9; exact (Option.some.inj hk9).symm
          obtain rfl : v_14 = v_71 := by have hk9 := hfc_53 o0 ko0; rw [hfo_58, hfo_41] at hk9; exact (Option.some.inj hk9).symm
          have hqhpost_54 := hpost_54 v_8 v_65 (by rw [hfo_41]; rfl) (by rw [hfo_58]; rfl)
          refine lv_iconst (v := 1) hx hb dX7_addPair_96 (by decide) ?_
          exact W.zret (v := 1) (ty := .boolean) hx hb hr rfl (fun t ht hW => ⟨⟨1, f_50, rfl, ⟨hG, (by decide), hfr0, hfr207_1, hfr207_12, (by intro w6 z6 w1 z1 e6 e1 d6 d1; rw [hfo_1] at e6 e1; rw [hfo_58] at d6 d1; obtain rfl := Option.some.inj e6; obtain rfl := Option.some.inj d6; obtain rfl := Option.some.inj e1; obtain rfl := Option.some.inj d1; (try rw [ti_1]) <;> omega)⟩, by rw [ht]; exact hP, va_K.moved hW.alike hK, pl_in hD⟩, hS.F ht⟩) hS.2.2 dX7_addPair_97
        · skip
          rw [Int32.lt_iff_toInt_lt, ti_3] at c_31
          refine lv_iconst (v := 0) hx hb dX7_addPair_56 (by decide) ?_
          exact W.zret (v := 0) (ty := .boolean) hx hb hr rfl (fun t ht hW => ⟨⟨0, f, rfl, ⟨hG, (by decide), hfr0, hfr207_1, hfr207_12, (by intro w6 z6 w1 z1 e6 e1 d6 d1; rw [hfo_1] at e6 e1; rw [hfo_1] at d6 d1; obtain rfl := Option.some.inj e6; obtain rfl := Option.some.inj d6; obtain rfl := Option.some.inj e1; obtain rfl := Option.some.inj d1; (try rw [ti_0]) <;> omega)⟩, by rw [ht]; exact hP, va_K.moved hW.alike hK, pl_in hD⟩, hS.F ht⟩) hS.2.2 dX7_addPair_57
    · skip
      rw [Int32.lt_iff_toInt_lt, ti_12] at c_23
      refine lv_iconst (v := 1) hx hb dX7_addPair_26 (by decide) ?_
      refine lv_goto (tgt := 31) hx hb dX7_addPair_27 (by decide) ?_
      refine lv_istore_n (lv' := [(3, .int 1), (0, .ref o0), (1, .int p1), (2, .int p2)]) hx hb dX7_addPair_31 rfl hl (by decide) rfl (fun ls hl => ?_)
      refine lv_iload_n hx hb dX7_addPair_32 rfl (lv_at hl 0 rfl) ?_
      refine lv_if_ne (tgt := 56) hx hb dX7_addPair_33 (by decide) (fun _ => ?_) (fun c9 => absurd c9 (by decide))
      refine lv_iconst (v := 0) hx hb dX7_addPair_56 (by decide) ?_
      exact W.zret (v := 0) (ty := .boolean) hx hb hr rfl (fun t ht hW => ⟨⟨0, f, rfl, ⟨hG, (by decide), hfr0, hfr207_1, hfr207_12, (by intro w6 z6 w1 z1 e6 e1 d6 d1; rw [hfo_1] at e6 e1; rw [hfo_1] at d6 d1; obtain rfl := Option.some.inj e6; obtain rfl := Option.some.inj d6; obtain rfl := Option.some.inj e1; obtain rfl := Option.some.inj d1; (try rw [ti_0]) <;> omega)⟩, by rw [ht]; exact hP, va_K.moved hW.alike hK, pl_in hD⟩, hS.F ht⟩) hS.2.2 dX7_addPair_57
  · skip
    rw [← Int32.toInt_inj, ti_m1] at c_21
    refine lv_iconst (v := 1) hx hb dX7_addPair_10 (by decide) ?_
    exact W.zret (v := 1) (ty := .boolean) hx hb hr rfl (fun t ht hW => ⟨⟨1, f, rfl, ⟨hG, (by decide), hfr0, hfr207_1, hfr207_12, (by intro w6 z6 w1 z1 e6 e1 d6 d1; rw [hfo_1] at e6 e1; rw [hfo_1] at d6 d1; obtain rfl := Option.some.inj e6; obtain rfl := Option.some.inj d6; obtain rfl := Option.some.inj e1; obtain rfl := Option.some.inj d1; (try rw [ti_1]) <;> omega)⟩, by rw [ht]; exact hP, va_K.moved hW.alike hK, pl_in hD⟩, hS.F ht⟩) hS.2.2 dX7_addPair_11
set_option maxHeartbeats 8000000 in
set_option maxRecDepth 100000 in
theorem s_X8_begin_k8_k7 (l : Launch) (D : va_G) (cI cL cZ cR cG cH : ClassId) (Z : zT) (kd : Nat → Nat) (L : List Nat) (f : Nat → va_E) (hG : GI (okc cI cL cZ cR cG cH L kd) kd L f) (o0 : Nat) (mo0 : o0 ∈ L) (ko0 : kd o0 = 8) (o1 : Nat) (mo1 : o1 ∈ L) (ko1 : kd o1 = 7) : mPV l D cI cL cZ cR cG cH Z yX8_begin cX8_begin 3 none 0 0 [.ref o0, .ref o1] L f (fun (f9 : Nat → va_E) => GI (okc cI cL cZ cR cG cH L kd) kd L f9 ∧ (∀ b, kd b ≠ 517 → kd b ≠ 518 → kd b ≠ 520 → f9 b = f b)) := by
  obtain ⟨dC, dI⟩ := D
  refine Met.ofW (cc := cX8_begin) (maxL := 3) (ret := none) (by decide) rfl ?_
  intro p e s m args below meth c s₁ B hml hv
  obtain ⟨rfl, hP, hK, hD0, hN, hZ⟩ := hv
  have hx := B.exec
  have hb := B.bytes
  have hr := B.returns
  have hU : ∀ w ∈ wsU, w.before _ s = true := fun w h => atoms_spec (ws := wU yX8_begin cX8_begin 3 none) B.pre w (List.mem_cons_of_mem _ h)
  have hown : s.vm.findClass RX8 = some m.cls := findClass_of_methodNamed B.named
  have hlocks := B.notSynchronized
  have hD := pl_in hD0
  have hS : va_S (fun q => q ∈ L) s.heap s.heap [] := va_S.rf
  have hl := lv_entry ([.ref o0, .ref o1]) (n := 3) (Nat.le_of_ble_eq_true rfl)
  rw [lg_entry_eq]
  generalize (lg_sl ([.ref o0, .ref o1]) ++ List.replicate (3 - (lg_sl ([.ref o0, .ref o1])).length) Slot.unset).toArray = ls at hl ⊢
  have hl : lv_has ls 3 [(0, .ref o0), (1, .ref o1)] := hl
  have hfr0 : ∀ b, kd b ≠ 517 → kd b ≠ 518 → kd b ≠ 520 → f b = f b := fun _ _ _ _ => rfl
  refine lv_aload_n hx hb dX8_begin_0 rfl (lv_at hl 0 rfl) ?_
  obtain ⟨a_2, a_3, a_4, a_5, a_6, hfo_1, ⟨ma_2, ka_2⟩, ⟨ma_3, ka_3⟩, ⟨ma_4, ka_4⟩, ⟨ma_5, ka_5⟩, ⟨ma_6, ka_6⟩⟩ := un_8 (hG _ mo0) ko0
  refine tk_getP (D := (dC, dI)) (ci := 8) (v := .ref a_6) (C := RX8) (T := TX8) (N := 5) hx hb hU inlX8 hown hK hP mo0 hfo_1 rfl 4 (by decide) (hU _ wd_124) (fun _ h9 => h9) rfl dX8_begin_1 ?_
  refine lv_iconst (v := 0) hx hb dX8_begin_4 (by decide) ?_
  refine lv_iconst (v := 0) hx hb dX8_begin_5 (by decide) ?_
  obtain ⟨g_8, hfo_7, hbg_8⟩ := un_520 (hG _ ma_6) ka_6
  refine tk_istP hx hb hK hP hD hS 0 ma_6 hfo_7 rfl (vp_in_nI (n := 0) (by decide) (by decide)) dX8_begin_6 (fun H locs hP hD hS => ?_)
  obtain ⟨f_10, ef_10⟩ : ∃ y : Nat → va_E, y = va_up f a_6 (.inl (cI, 10, .inl (upd g_8 (Int32.toNatClampNeg 0) 0))) := ⟨_, rfl⟩
  have hP : va_P (dC, dI) vwCl (va_pl L f_10) H := by rw [ef_10]; exact hP
  have hD : va_D (fun q => q ∈ L) (va_pl L f_10) := by rw [ef_10]; exact hD
  have hG : GI (okc cI cL cZ cR cG cH L kd) kd L f_10 := by rw [ef_10]; exact hG.set a_6 (mk_520 ka_6 ⟨_, rfl, okI_up hbg_8 (by decide) _⟩)
  have hfo_11 : f_10 o0 = .inr (8, [.ref a_2, .ref a_3, .ref a_4, .ref a_5, .ref a_6]) := by rw [ef_10, up_ne (kd_ne ka_6 ko0 (by decide))]; exact hfo_1
  have hfr0 : ∀ b, kd b ≠ 517 → kd b ≠ 518 → kd b ≠ 520 → f_10 b = f b := fun b q517 q518 q520 => (congrFun ef_10 b).trans ((up_ne (fun e9 => q520 (by rw [e9]; exact ka_6))).trans (hfr0 b q517 q518 q520))
  have hfo_12 : f_10 a_6 = .inl (cI, 10, .inl (upd g_8 (Int32.toNatClampNeg 0) 0)) := by rw [ef_10]; exact up_self
  refine lv_iconst (v := 0) hx hb dX8_begin_7 (by decide) ?_
  refine lv_istore_n (lv' := [(2, .int 0), (0, .ref o0), (1, .ref o1)]) hx hb dX8_begin_8 rfl hl (by decide) rfl (fun ls hl => ?_)
  have hloop_28 : ∀ (n : Nat), ∀ (y_29 : Int32), (0 ≤ y_29.toInt ∧ y_29.toInt ≤ 8) → ∀ (f_31 : Nat → va_E), GI (okc cI cL cZ cR cG cH L kd) kd L f_31 → ∀ (H : Heap) (locs : List Loc), va_P (dC, dI) vwCl (va_pl L f_31) H → va_S (fun q => q ∈ L) s.heap H locs → va_D (fun q => q ∈ L) (va_pl L f_31) → (∀ b, kd b ≠ 517 → kd b ≠ 518 → kd b ≠ 520 → f_31 b = f b) → (f_31 o0 = .inr (8, [.ref a_2, .ref a_3, .ref a_4, .ref a_5, .ref a_6])) → 8 - y_29.toInt < (n : Int) → ∀ (ls : Array Slot), lv_has ls 3 [(2, .int y_29), (0, .ref o0), (1, .ref o1)] → W p l e (headSpec (wU yX8_begin cX8_begin 3 none) { frames := 0, cells := 0, slots := 0, locals := 0 }).room s m [.ref o0, .ref o1].toArray below meth c H locs 0 0 (MQ below (va_Qv (fun (f9 : Nat → va_E) => GI (okc cI cL cZ cR cG cH L kd) kd L f9 ∧ (∀ b, kd b ≠ 517 → kd b ≠ 518 → kd b ≠ 520 → f9 b = f b)) (qP (dC, dI) cI cL cZ cR cG cH L) (fun q => q ∈ L)) [.ref o0, .ref o1].toArray s 0 0 (fun q => q ∈ L)) (F0 m 9 ls []) := by
    intro n
    induction n with
    | zero => intro y_29 by_29 f_31 hG H locs hP hS hD hfr0 hfo_32 hmuhloop_28 ls hl; exfalso; omega
    | succ n ih_hloop_28 =>
      intro y_29 by_29 f_31 hG H locs hP hS hD hfr0 hfo_32 hmuhloop_28 ls hl
      refine lv_iload_n hx hb dX8_begin_9 rfl (lv_at hl 0 rfl) ?_
      refine lv_aload_n hx hb dX8_begin_10 rfl (lv_at hl 2 rfl) ?_
      obtain ⟨a_34, v_35, a_36, a_37, a_38, a_39, v_40, a_41, a_42, a_43, a_44, a_45, v_46, a_47, a_48, a_49, hfo_33, ⟨ma_34, ka_34⟩, bv_35, ⟨ma_36, ka_36⟩, ⟨ma_37, ka_37⟩, ⟨ma_38, ka_38⟩, ⟨ma_39, ka_39⟩, bv_40, ⟨ma_41, ka_41⟩, ⟨ma_42, ka_42⟩, ⟨ma_43, ka_43⟩, ⟨ma_44, ka_44⟩, ⟨ma_45, ka_45⟩, bv_46, ⟨ma_47, ka_47⟩, ⟨ma_48, ka_48⟩, ⟨ma_49, ka_49⟩⟩ := un_7 (hG _ mo1) ko1
      refine tk_getP (D := (dC, dI)) (ci := 7) (v := .int v_46) (C := RX7) (T := TX7) (N := 16) hx hb hU inlX7 hown hK hP mo1 hfo_33 rfl 12 (by decide) (hU _ wd_759) (fun _ h9 => h9) rfl dX8_begin_11 ?_
      refine lv_icmp_ge (tgt := 52) hx hb dX8_begin_14 (by decide) (fun c_50 => ?_) (fun c_50 => ?_)
      · skip
        rw [Int32.le_iff_toInt_le] at c_50
        exact W.vret hx hb hr (fun t ht hW => ⟨⟨f_31, rfl, ⟨hG, hfr0⟩, by rw [ht]; exact hP, va_K.moved hW.alike hK, pl_in hD⟩, hS.F ht⟩) hS.2.2 dX8_begin_52
      · skip
        rw [Int32.le_iff_toInt_le] at c_50
        refine lv_aload_n hx hb dX8_begin_17 rfl (lv_at hl 1 rfl) ?_
        refine tk_getP (D := (dC, dI)) (ci := 8) (v := .ref a_2) (C := RX8) (T := TX8) (N := 5) hx hb hU inlX8 hown hK hP mo0 hfo_32 rfl 0 (by decide) (hU _ wd_120) (fun _ h9 => h9) rfl dX8_begin_18 ?_
        refine lv_iload_n hx hb dX8_begin_21 rfl (lv_at hl 0 rfl) ?_
        refine lv_aload_n hx hb dX8_begin_22 rfl (lv_at hl 2 rfl) ?_
        refine tk_getP (D := (dC, dI)) (ci := 7) (v := .ref a_45) (C := RX7) (T := TX7) (N := 16) hx hb hU inlX7 hown hK hP mo1 hfo_33 rfl 11 (by decide) (hU _ wd_760) (fun _ h9 => h9) rfl dX8_begin_23 ?_
        refine lv_iload_n hx hb dX8_begin_26 rfl (lv_at hl 0 rfl) ?_
        obtain ⟨g_52, hfo_51, hbg_52⟩ := un_515 (hG _ ma_45) ka_45
        obtain ⟨a_53, hga_53, ma_53, ka_53⟩ := hbg_52 (Int32.toNatClampNeg y_29) (in_lt (vp_in_iff.mpr (by constructor <;> omega)))
        refine tk_aldP hx hb hK hP 3 ma_45 hfo_51 rfl (vp_in_iff.mpr (by constructor <;> omega)) hga_53 dX8_begin_27 ?_
        obtain ⟨v_55, v_56, v_57, v_58, a_59, a_60, a_61, a_62, v_63, v_64, v_65, hfo_54, bv_55, bv_56, bv_57, bv_58, ⟨ma_59, ka_59⟩, ⟨ma_60, ka_60⟩, ⟨ma_61, ka_61⟩, ⟨ma_62, ka_62⟩⟩ := un_4 (hG _ ma_53) ka_53
        have bv_63 : ((-2147483648) ≤ v_63.toInt ∧ v_63.toInt ≤ 2147483647) := ⟨i32_lo _, i32_hi _⟩
        have bv_64 : ((-2147483648) ≤ v_64.toInt ∧ v_64.toInt ≤ 2147483647) := ⟨i32_lo _, i32_hi _⟩
        have bv_65 : ((-2147483648) ≤ v_65.toInt ∧ v_65.toInt ≤ 2147483647) := ⟨i32_lo _, i32_hi _⟩
        refine tk_getP (D := (dC, dI)) (ci := 4) (v := .int v_63) (C := RX4) (T := TX4) (N := 11) hx hb hU inlX4 hown hK hP ma_53 hfo_54 rfl 8 (by decide) (hU _ wd_761) (fun _ h9 => h9) rfl dX8_begin_28 ?_
        obtain ⟨g_67, hfo_66, hbg_67⟩ := un_517 (hG _ ma_2) ka_2
        refine tk_istP hx hb hK hP hD hS 0 ma_2 hfo_66 rfl (vp_in_iff.mpr (by constructor <;> omega)) dX8_begin_31 (fun H locs hP hD hS => ?_)
        obtain ⟨f_69, ef_69⟩ : ∃ y : Nat → va_E, y = va_up f_31 a_2 (.inl (cI, 80, .inl (upd g_67 (Int32.toNatClampNeg y_29) v_63))) := ⟨_, rfl⟩
        have hP : va_P (dC, dI) vwCl (va_pl L f_69) H := by rw [ef_69]; exact hP
        have hD : va_D (fun q => q ∈ L) (va_pl L f_69) := by rw [ef_69]; exact hD
        have hG : GI (okc cI cL cZ cR cG cH L kd) kd L f_69 := by rw [ef_69]; exact hG.set a_2 (mk_517 ka_2 ⟨_, rfl, okI_up hbg_67 ⟨i32_lo _, i32_hi _⟩ _⟩)
        have hfo_70 : f_69 o0 = .inr (8, [.ref a_2, .ref a_3, .ref a_4, .ref a_5, .ref a_6]) := by rw [ef_69, up_ne (kd_ne ka_2 ko0 (by decide))]; exact hfo_32
        have hfo_71 : f_69 o1 = .inr (7, [.ref a_34, .int v_35, .ref a_36, .ref a_37, .ref a_38, .ref a_39, .int v_40, .ref a_41, .ref a_42, .ref a_43, .ref a_44, .ref a_45, .int v_46, .ref a_47, .ref a_48, .ref a_49]) := by rw [ef_69, up_ne (kd_ne ka_2 ko1 (by decide))]; exact hfo_33
        have hfo_72 : f_69 a_45 = .inl (cR, 8, .inr (.inr (.inr (.inr g_52)))) := by rw [ef_69, up_ne (kd_ne ka_2 ka_45 (by decide))]; exact hfo_51
        have hfo_73 : f_69 a_53 = .inr (4, [.int v_55, .int v_56, .int v_57, .int v_58, .ref a_59, .ref a_60, .ref a_61, .ref a_62, .int v_63, .int v_64, .int v_65]) := by rw [ef_69, up_ne (kd_ne ka_2 ka_53 (by decide))]; exact hfo_54
        have hfr0 : ∀ b, kd b ≠ 517 → kd b ≠ 518 → kd b ≠ 520 → f_69 b = f b := fun b q517 q518 q520 => (congrFun ef_69 b).trans ((up_ne (fun e9 => q517 (by rw [e9]; exact ka_2))).trans (hfr0 b q517 q518 q520))
        have hfo_74 : f_69 a_2 = .inl (cI, 80, .inl (upd g_67 (Int32.toNatClampNeg y_29) v_63)) := by rw [ef_69]; exact up_self
        refine lv_aload_n hx hb dX8_begin_32 rfl (lv_at hl 1 rfl) ?_
        refine tk_getP (D := (dC, dI)) (ci := 8) (v := .ref a_3) (C := RX8) (T := TX8) (N := 5) hx hb hU inlX8 hown hK hP mo0 hfo_70 rfl 1 (by decide) (hU _ wd_121) (fun _ h9 => h9) rfl dX8_begin_33 ?_
        refine lv_iload_n hx hb dX8_begin_36 rfl (lv_at hl 0 rfl) ?_
        refine lv_iconst (v := 0) hx hb dX8_begin_37 (by decide) ?_
        obtain ⟨g_76, hfo_75, hbg_76⟩ := un_517 (hG _ ma_3) ka_3
        refine tk_istP hx hb hK hP hD hS 0 ma_3 hfo_75 rfl (vp_in_iff.mpr (by constructor <;> omega)) dX8_begin_38 (fun H locs hP hD hS => ?_)
        obtain ⟨f_78, ef_78⟩ : ∃ y : Nat → va_E, y = va_up f_69 a_3 (.inl (cI, 80, .inl (upd g_76 (Int32.toNatClampNeg y_29) 0))) := ⟨_, rfl⟩
        have hP : va_P (dC, dI) vwCl (va_pl L f_78) H := by rw [ef_78]; exact hP
        have hD : va_D (fun q => q ∈ L) (va_pl L f_78) := by rw [ef_78]; exact hD
        have hG : GI (okc cI cL cZ cR cG cH L kd) kd L f_78 := by rw [ef_78]; exact hG.set a_3 (mk_517 ka_3 ⟨_, rfl, okI_up hbg_76 ⟨i32_lo _, i32_hi _⟩ _⟩)
        have hfo_79 : f_78 o0 = .inr (8, [.ref a_2, .ref a_3, .ref a_4, .ref a_5, .ref a_6]) := by rw [ef_78, up_ne (kd_ne ka_3 ko0 (by decide))]; exact hfo_70
        have hfo_80 : f_78 o1 = .inr (7, [.ref a_34, .int v_35, .ref a_36, .ref a_37, .ref a_38, .ref a_39, .int v_40, .ref a_41, .ref a_42, .ref a_43, .ref a_44, .ref a_45, .int v_46, .ref a_47, .ref a_48, .ref a_49]) := by rw [ef_78, up_ne (kd_ne ka_3 ko1 (by decide))]; exact hfo_71
        have hfo_81 : f_78 a_45 = .inl (cR, 8, .inr (.inr (.inr (.inr g_52)))) := by rw [ef_78, up_ne (kd_ne ka_3 ka_45 (by decide))]; exact hfo_72
        have hfo_82 : f_78 a_53 = .inr (4, [.int v_55, .int v_56, .int v_57, .int v_58, .ref a_59, .ref a_60, .ref a_61, .ref a_62, .int v_63, .int v_64, .int v_65]) := by rw [ef_78, up_ne (kd_ne ka_3 ka_53 (by decide))]; exact hfo_73
        have hfr0 : ∀ b, kd b ≠ 517 → kd b ≠ 518 → kd b ≠ 520 → f_78 b = f b := fun b q517 q518 q520 => (congrFun ef_78 b).trans ((up_ne (fun e9 => q517 (by rw [e9]; exact ka_3))).trans (hfr0 b q517 q518 q520))
        have hfo_83 : f_78 a_3 = .inl (cI, 80, .inl (upd g_76 (Int32.toNatClampNeg y_29) 0)) := by rw [ef_78]; exact up_self
        refine lv_aload_n hx hb dX8_begin_39 rfl (lv_at hl 1 rfl) ?_
        refine tk_getP (D := (dC, dI)) (ci := 8) (v := .ref a_4) (C := RX8) (T := TX8) (N := 5) hx hb hU inlX8 hown hK hP mo0 hfo_79 rfl 2 (by decide) (hU _ wd_122) (fun _ h9 => h9) rfl dX8_begin_40 ?_
        refine lv_iload_n hx hb dX8_begin_43 rfl (lv_at hl 0 rfl) ?_
        refine lv_iconst (v := 0) hx hb dX8_begin_44 (by decide) ?_
        obtain ⟨g_85, hfo_84, hbg_85⟩ := un_518 (hG _ ma_4) ka_4
        refine tk_istP hx hb hK hP hD hS 0 ma_4 hfo_84 rfl (vp_in_iff.mpr (by constructor <;> omega)) dX8_begin_45 (fun H locs hP hD hS => ?_)
        obtain ⟨f_87, ef_87⟩ : ∃ y : Nat → va_E, y = va_up f_78 a_4 (.inl (cI, 80, .inl (upd g_85 (Int32.toNatClampNeg y_29) 0))) := ⟨_, rfl⟩
        have hP : va_P (dC, dI) vwCl (va_pl L f_87) H := by rw [ef_87]; exact hP
        have hD : va_D (fun q => q ∈ L) (va_pl L f_87) := by rw [ef_87]; exact hD
        have hG : GI (okc cI cL cZ cR cG cH L kd) kd L f_87 := by rw [ef_87]; exact hG.set a_4 (mk_518 ka_4 ⟨_, rfl, okI_up hbg_85 (by decide) _⟩)
        have hfo_88 : f_87 o0 = .inr (8, [.ref a_2, .ref a_3, .ref a_4, .ref a_5, .ref a_6]) := by rw [ef_87, up_ne (kd_ne ka_4 ko0 (by decide))]; exact hfo_79
        have hfo_89 : f_87 o1 = .inr (7, [.ref a_34, .int v_35, .ref a_36, .ref a_37, .ref a_38, .ref a_39, .int v_40, .ref a_41, .ref a_42, .ref a_43, .ref a_44, .ref a_45, .int v_46, .ref a_47, .ref a_48, .ref a_49]) := by rw [ef_87, up_ne (kd_ne ka_4 ko1 (by decide))]; exact hfo_80
        have hfo_90 : f_87 a_45 = .inl (cR, 8, .inr (.inr (.inr (.inr g_52)))) := by rw [ef_87, up_ne (kd_ne ka_4 ka_45 (by decide))]; exact hfo_81
        have hfo_91 : f_87 a_53 = .inr (4, [.int v_55, .int v_56, .int v_57, .int v_58, .ref a_59, .ref a_60, .ref a_61, .ref a_62, .int v_63, .int v_64, .int v_65]) := by rw [ef_87, up_ne (kd_ne ka_4 ka_53 (by decide))]; exact hfo_82
        have hfr0 : ∀ b, kd b ≠ 517 → kd b ≠ 518 → kd b ≠ 520 → f_87 b = f b := fun b q517 q518 q520 => (congrFun ef_87 b).trans ((up_ne (fun e9 => q518 (by rw [e9]; exact ka_4))).trans (hfr0 b q517 q518 q520))
        have hfo_92 : f_87 a_4 = .inl (cI, 80, .inl (upd g_85 (Int32.toNatClampNeg y_29) 0)) := by rw [ef_87]; exact up_self
        obtain ⟨x_93, ex_93⟩ : ∃ y : Int32, y_29 + 1 = y := ⟨_, rfl⟩
        have hx_93 : x_93.toInt = y_29.toInt + 1 := by rw [← ex_93, ad_I (by rw [ti_1]; omega) (by rw [ti_1]; omega), ti_1]
        have bx_93 : (1 ≤ x_93.toInt ∧ x_93.toInt ≤ 8) := by constructor <;> omega
        refine lv_iinc (v := x_93) (lv' := [(2, .int x_93), (0, .ref o0), (1, .ref o1)]) hx hb dX8_begin_46 hl (k := 0) rfl ex_93 (by decide) rfl (fun ls hl => ?_)
        refine lv_goto (tgt := 9) hx hb dX8_begin_49 (by decide) ?_
        exact ih_hloop_28 x_93 (by constructor <;> omega) f_87 hG _ _ hP hS hD hfr0 hfo_88 (by omega) ls (lv_sub hl [0, 1, 2] rfl)
  exact hloop_28 9 0 (by decide) f_10 hG _ _ hP hS hD hfr0 hfo_11 (by (try rw [ti_0]) <;> omega) ls hl
