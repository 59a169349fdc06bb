set_option maxHeartbeats 8000000 in
set_option maxRecDepth 100000 in
theorem s_X7_copyFrom_k107_k7 (l : Launch) (D : va_G) (cI cL cZ cR cG cH : ClassId) (Z : zT) (kd : Nat → Nat) (L : List Nat) (f : Nat → va_E) (hG : GI (okc cI cL cZ cR cG cH L kd) kd L f) (o0 : Nat) (mo0 : o0 ∈ L) (ko0 : kd o0 = 107) (o1 : Nat) (mo1 : o1 ∈ L) (ko1 : kd o1 = 7) : mPV l D cI cL cZ cR cG cH Z yX7_copyFrom cX7_copyFrom 3 none 3 82 [.ref o0, .ref o1] L f (fun (f9 : Nat → va_E) => GI (okc cI cL cZ cR cG cH L kd) kd L f9 ∧ (∀ b, kd b ≠ 104 → kd b ≠ 105 → kd b ≠ 107 → kd b ≠ 109 → kd b ≠ 113 → kd b ≠ 541 → kd b ≠ 542 → kd b ≠ 543 → kd b ≠ 544 → kd b ≠ 545 → kd b ≠ 546 → kd b ≠ 547 → kd b ≠ 548 → kd b ≠ 549 → kd b ≠ 550 → kd b ≠ 551 → kd b ≠ 552 → kd b ≠ 555 → f9 b = f b) ∧ (∀ b, kd b = 107 → fldR (f9 b) 0 = fldR (f b) 0) ∧ (∀ b, kd b = 107 → fldR (f9 b) 3 = fldR (f b) 3) ∧ (∀ b, kd b = 107 → fldR (f9 b) 11 = fldR (f b) 11)) := by
  obtain ⟨dC, dI⟩ := D
  refine Met.ofW (cc := cX7_copyFrom) (maxL := 3) (ret := none) (by decide) rfl ?_
  intro p e s m args below meth c s₁ B hml hv
  obtain ⟨rfl, hP, hK, hD0, hN, hZ⟩ := hv
  have hx := B.exec
  have hb := B.bytes
  have hr := B.returns
  have hU : ∀ w ∈ wsU, w.before _ s = true := fun w h => atoms_spec (ws := wU yX7_copyFrom cX7_copyFrom 3 none) B.pre w (List.mem_cons_of_mem _ h)
  have hown : s.vm.findClass RX7 = some m.cls := findClass_of_methodNamed B.named
  have hlocks := B.notSynchronized
  have hD := pl_in hD0
  have hS : va_S (fun q => q ∈ L) s.heap s.heap [] := va_S.rf
  have hl := lv_entry ([.ref o0, .ref o1]) (n := 3) (Nat.le_of_ble_eq_true rfl)
  rw [lg_entry_eq]
  generalize (lg_sl ([.ref o0, .ref o1]) ++ List.replicate (3 - (lg_sl ([.ref o0, .ref o1])).length) Slot.unset).toArray = ls at hl ⊢
  have hl : lv_has ls 3 [(0, .ref o0), (1, .ref o1)] := hl
  have hfr0 : ∀ b, kd b ≠ 104 → kd b ≠ 105 → kd b ≠ 107 → kd b ≠ 109 → kd b ≠ 113 → kd b ≠ 541 → kd b ≠ 542 → kd b ≠ 543 → kd b ≠ 544 → kd b ≠ 545 → kd b ≠ 546 → kd b ≠ 547 → kd b ≠ 548 → kd b ≠ 549 → kd b ≠ 550 → kd b ≠ 551 → kd b ≠ 552 → kd b ≠ 555 → f b = f b := fun _ _ _ _ _ _ _ _ _ _ _ _ _ _ _ _ _ _ _ => rfl
  have hrr107_0 : ∀ b, kd b = 107 → fldR (f b) 0 = fldR (f b) 0 := fun _ _ => rfl
  have hrr107_3 : ∀ b, kd b = 107 → fldR (f b) 3 = fldR (f b) 3 := fun _ _ => rfl
  have hrr107_11 : ∀ b, kd b = 107 → fldR (f b) 11 = fldR (f b) 11 := fun _ _ => rfl
  refine lv_aload_n hx hb dX7_copyFrom_0 rfl (lv_at hl 1 rfl) ?_
  obtain ⟨a_2, v_3, a_4, a_5, a_6, a_7, v_8, a_9, a_10, a_11, a_12, a_13, v_14, a_15, a_16, a_17, hfo_1, ⟨ma_2, ka_2⟩, bv_3, ⟨ma_4, ka_4⟩, ⟨ma_5, ka_5⟩, ⟨ma_6, ka_6⟩, ⟨ma_7, ka_7⟩, bv_8, ⟨ma_9, ka_9⟩, ⟨ma_10, ka_10⟩, ⟨ma_11, ka_11⟩, ⟨ma_12, ka_12⟩, ⟨ma_13, ka_13⟩, bv_14, ⟨ma_15, ka_15⟩, ⟨ma_16, ka_16⟩, ⟨ma_17, ka_17⟩⟩ := un_7 (hG _ mo1) ko1
  refine tk_getP (D := (dC, dI)) (ci := 7) (v := .ref a_2) (C := RX7) (T := TX7) (N := 16) hx hb hU inlX7 hown hK hP mo1 hfo_1 rfl 0 (by decide) (hU _ wd_72) (fun _ h9 => h9) rfl dX7_copyFrom_1 ?_
  refine lv_iconst (v := 0) hx hb dX7_copyFrom_4 (by decide) ?_
  refine lv_aload_n hx hb dX7_copyFrom_5 rfl (lv_at hl 0 rfl) ?_
  obtain ⟨a_19, v_20, a_21, a_22, a_23, a_24, v_25, a_26, a_27, a_28, a_29, a_30, v_31, a_32, a_33, a_34, hfo_18, ⟨ma_19, ka_19⟩, bv_20, ⟨ma_21, ka_21⟩, ⟨ma_22, ka_22⟩, ⟨ma_23, ka_23⟩, ⟨ma_24, ka_24⟩, bv_25, ⟨ma_26, ka_26⟩, ⟨ma_27, ka_27⟩, ⟨ma_28, ka_28⟩, ⟨ma_29, ka_29⟩, ⟨ma_30, ka_30⟩, bv_31, ⟨ma_32, ka_32⟩, ⟨ma_33, ka_33⟩, ⟨ma_34, ka_34⟩⟩ := un_107 (hG _ mo0) ko0
  refine tk_getP (D := (dC, dI)) (ci := 7) (v := .ref a_19) (C := RX7) (T := TX7) (N := 16) hx hb hU inlX7 hown hK hP mo0 hfo_18 rfl 0 (by decide) (hU _ wd_72) (fun _ h9 => h9) rfl dX7_copyFrom_6 ?_
  refine lv_iconst (v := 0) hx hb dX7_copyFrom_9 (by decide) ?_
  refine lv_aload_n hx hb dX7_copyFrom_10 rfl (lv_at hl 0 rfl) ?_
  refine tk_getP (D := (dC, dI)) (ci := 7) (v := .ref a_19) (C := RX7) (T := TX7) (N := 16) hx hb hU inlX7 hown hK hP mo0 hfo_18 rfl 0 (by decide) (hU _ wd_72) (fun _ h9 => h9) rfl dX7_copyFrom_11 ?_
  obtain ⟨g_36, hfo_35, hbg_36⟩ := un_549 (hG _ ma_19) ka_19
  refine tk_alenP (v := 26) hx hb hK hP 0 ma_19 hfo_35 rfl rfl dX7_copyFrom_14 ?_
  obtain ⟨g_38, hfo_37, hbg_38⟩ := un_508 (hG _ ma_2) ka_2
  refine tk_copyP hx hb (by rw [hml]; exact hl.1.symm) hown (hU _ wd_534) (hU _ wd_253) (hU _ wd_254) (hU _ wd_255) hK hP hD hS 0 ma_2 ma_19 hfo_37 hfo_35 rfl (by decide) (by decide) (by decide) (by decide) (by decide) (Nat.le_of_ble_eq_true rfl) (Nat.le_of_ble_eq_true rfl) dX7_copyFrom_15 (fun H locs hP hD hS => ?_)
  obtain ⟨f_40, ef_40⟩ : ∃ y : Nat → va_E, y = va_up f a_19 (.inl (cI, 26, .inl (va_cpy g_38 g_36 (Int32.toNatClampNeg 0) (Int32.toNatClampNeg 0) (Int32.toNatClampNeg 26)))) := ⟨_, rfl⟩
  have hP : va_P (dC, dI) vwCl (va_pl L f_40) H := by rw [ef_40]; exact hP
  have hD : va_D (fun q => q ∈ L) (va_pl L f_40) := by rw [ef_40]; exact hD
  have hG : GI (okc cI cL cZ cR cG cH L kd) kd L f_40 := by rw [ef_40]; exact hG.set a_19 (mk_549 ka_19 ⟨_, rfl, okI_cpy (fun j => by have := hbg_38 j; constructor <;> omega) hbg_36 _ _ _⟩)
  have hfo_41 : f_40 o1 = .inr (7, [.ref a_2, .int v_3, .ref a_4, .ref a_5, .ref a_6, .ref a_7, .int v_8, .ref a_9, .ref a_10, .ref a_11, .ref a_12, .ref a_13, .int v_14, .ref a_15, .ref a_16, .ref a_17]) := by rw [ef_40, up_ne (kd_ne ka_19 ko1 (by decide))]; exact hfo_1
  have hfo_42 : f_40 o0 = .inr (7, [.ref a_19, .int v_20, .ref a_21, .ref a_22, .ref a_23, .ref a_24, .int v_25, .ref a_26, .ref a_27, .ref a_28, .ref a_29, .ref a_30, .int v_31, .ref a_32, .ref a_33, .ref a_34]) := by rw [ef_40, up_ne (kd_ne ka_19 ko0 (by decide))]; exact hfo_18
  have hfo_43 : f_40 a_2 = .inl (cI, 26, .inl g_38) := by rw [ef_40, up_ne (kd_ne ka_19 ka_2 (by decide))]; exact hfo_37
  have hfr0 : ∀ b, kd b ≠ 104 → kd b ≠ 105 → kd b ≠ 107 → kd b ≠ 109 → kd b ≠ 113 → kd b ≠ 541 → kd b ≠ 542 → kd b ≠ 543 → kd b ≠ 544 → kd b ≠ 545 → kd b ≠ 546 → kd b ≠ 547 → kd b ≠ 548 → kd b ≠ 549 → kd b ≠ 550 → kd b ≠ 551 → kd b ≠ 552 → kd b ≠ 555 → f_40 b = f b := fun b q104 q105 q107 q109 q113 q541 q542 q543 q544 q545 q546 q547 q548 q549 q550 q551 q552 q555 => (congrFun ef_40 b).trans ((up_ne (fun e9 => q549 (by rw [e9]; exact ka_19))).trans (hfr0 b q104 q105 q107 q109 q113 q541 q542 q543 q544 q545 q546 q547 q548 q549 q550 q551 q552 q555))
  have hrr107_0 : ∀ b, kd b = 107 → fldR (f_40 b) 0 = fldR (f b) 0 := fun b kb => (congrArg (fun x => fldR x 0) ((congrFun ef_40 b).trans (up_ne (kd_ne ka_19 kb (by decide))))).trans (hrr107_0 b kb)
  have hrr107_3 : ∀ b, kd b = 107 → fldR (f_40 b) 3 = fldR (f b) 3 := fun b kb => (congrArg (fun x => fldR x 3) ((congrFun ef_40 b).trans (up_ne (kd_ne ka_19 kb (by decide))))).trans (hrr107_3 b kb)
  have hrr107_11 : ∀ b, kd b = 107 → fldR (f_40 b) 11 = fldR (f b) 11 := fun b kb => (congrArg (fun x => fldR x 11) ((congrFun ef_40 b).trans (up_ne (kd_ne ka_19 kb (by decide))))).trans (hrr107_11 b kb)
  have hfo_44 : f_40 a_19 = .inl (cI, 26, .inl (va_cpy g_38 g_36 (Int32.toNatClampNeg 0) (Int32.toNatClampNeg 0) (Int32.toNatClampNeg 26))) := by rw [ef_40]; exact up_self
  refine lv_aload_n hx hb dX7_copyFrom_18 rfl (lv_at hl 0 rfl) ?_
  refine lv_aload_n hx hb dX7_copyFrom_19 rfl (lv_at hl 1 rfl) ?_
  refine tk_getP (D := (dC, dI)) (ci := 7) (v := .int v_3) (C := RX7) (T := TX7) (N := 16) hx hb hU inlX7 hown hK hP mo1 hfo_41 rfl 1 (by decide) (hU _ wd_262) (fun _ h9 => h9) rfl dX7_copyFrom_20 ?_
  refine tk_putP (D := (dC, dI)) (ci := 7) (v := .int v_3) (ty := .int) (C := RX7) (T := TX7) (N := 16) hx hb hU inlX7 tyX7 tyX7_ok nmX7 hown hK hP hD hS mo0 hfo_42 rfl 1 (by decide) (hU _ wd_262) (fun _ h9 => h9) rfl (by decide +kernel) rfl rfl (Nat.le_of_ble_eq_true rfl) dX7_copyFrom_23 (fun H locs hP hD hS => ?_)
  obtain ⟨f_46, ef_46⟩ : ∃ y : Nat → va_E, y = va_up f_40 o0 (.inr (7, [.ref a_19, .int v_3, .ref a_21, .ref a_22, .ref a_23, .ref a_24, .int v_25, .ref a_26, .ref a_27, .ref a_28, .ref a_29, .ref a_30, .int v_31, .ref a_32, .ref a_33, .ref a_34])) := ⟨_, rfl⟩
  have hP : va_P (dC, dI) vwCl (va_pl L f_46) H := by rw [ef_46]; exact hP
  have hD : va_D (fun q => q ∈ L) (va_pl L f_46) := by rw [ef_46]; exact hD
  have hG : GI (okc cI cL cZ cR cG cH L kd) kd L f_46 := by rw [ef_46]; exact hG.set o0 (mk_107 ko0 ⟨a_19, v_3, a_21, a_22, a_23, a_24, v_25, a_26, a_27, a_28, a_29, a_30, v_31, a_32, a_33, a_34, rfl, ⟨ma_19, ka_19⟩, (by constructor <;> omega), ⟨ma_21, ka_21⟩, ⟨ma_22, ka_22⟩, ⟨ma_23, ka_23⟩, ⟨ma_24, ka_24⟩, (by constructor <;> omega), ⟨ma_26, ka_26⟩, ⟨ma_27, ka_27⟩, ⟨ma_28, ka_28⟩, ⟨ma_29, ka_29⟩, ⟨ma_30, ka_30⟩, (by constructor <;> omega), ⟨ma_32, ka_32⟩, ⟨ma_33, ka_33⟩, ⟨ma_34, ka_34⟩⟩)
  have hfo_47 : f_46 o1 = .inr (7, [.ref a_2, .int v_3, .ref a_4, .ref a_5, .ref a_6, .ref a_7, .int v_8, .ref a_9, .ref a_10, .ref a_11, .ref a_12, .ref a_13, .int v_14, .ref a_15, .ref a_16, .ref a_17]) := by rw [ef_46, up_ne (kd_ne ko0 ko1 (by decide))]; exact hfo_41
  have hfo_48 : f_46 a_2 = .inl (cI, 26, .inl g_38) := by rw [ef_46, up_ne (kd_ne ko0 ka_2 (by decide))]; exact hfo_43
  have hfr0 : ∀ b, kd b ≠ 104 → kd b ≠ 105 → kd b ≠ 107 → kd b ≠ 109 → kd b ≠ 113 → kd b ≠ 541 → kd b ≠ 542 → kd b ≠ 543 → kd b ≠ 544 → kd b ≠ 545 → kd b ≠ 546 → kd b ≠ 547 → kd b ≠ 548 → kd b ≠ 549 → kd b ≠ 550 → kd b ≠ 551 → kd b ≠ 552 → kd b ≠ 555 → f_46 b = f b := fun b q104 q105 q107 q109 q113 q541 q542 q543 q544 q545 q546 q547 q548 q549 q550 q551 q552 q555 => (congrFun ef_46 b).trans ((up_ne (fun e9 => q107 (by rw [e9]; exact ko0))).trans (hfr0 b q104 q105 q107 q109 q113 q541 q542 q543 q544 q545 q546 q547 q548 q549 q550 q551 q552 q555))
  have hrr107_0 : ∀ b, kd b = 107 → fldR (f_46 b) 0 = fldR (f b) 0 := fun b kb => ((congrArg (fun x => fldR x 0) (congrFun ef_46 b)).trans (fr_up (by rw [hfo_42]; rfl) b)).trans (hrr107_0 b kb)
  have hrr107_3 : ∀ b, kd b = 107 → fldR (f_46 b) 3 = fldR (f b) 3 := fun b kb => ((congrArg (fun x => fldR x 3) (congrFun ef_46 b)).trans (fr_up (by rw [hfo_42]; rfl) b)).trans (hrr107_3 b kb)
  have hrr107_11 : ∀ b, kd b = 107 → fldR (f_46 b) 11 = fldR (f b) 11 := fun b kb => ((congrArg (fun x => fldR x 11) (congrFun ef_46 b)).trans (fr_up (by rw [hfo_42]; rfl) b)).trans (hrr107_11 b kb)
  have hfo_49 : f_46 o0 = .inr (7, [.ref a_19, .int v_3, .ref a_21, .ref a_22, .ref a_23, .ref a_24, .int v_25, .ref a_26, .ref a_27, .ref a_28, .ref a_29, .ref a_30, .int v_31, .ref a_32, .ref a_33, .ref a_34]) := by rw [ef_46]; exact up_self
  refine lv_aload_n hx hb dX7_copyFrom_26 rfl (lv_at hl 1 rfl) ?_
  refine tk_getP (D := (dC, dI)) (ci := 7) (v := .ref a_4) (C := RX7) (T := TX7) (N := 16) hx hb hU inlX7 hown hK hP mo1 hfo_47 rfl 2 (by decide) (hU _ wd_73) (fun _ h9 => h9) rfl dX7_copyFrom_27 ?_
  refine lv_iconst (v := 0) hx hb dX7_copyFrom_30 (by decide) ?_
  refine lv_aload_n hx hb dX7_copyFrom_31 rfl (lv_at hl 0 rfl) ?_
  refine tk_getP (D := (dC, dI)) (ci := 7) (v := .ref a_21) (C := RX7) (T := TX7) (N := 16) hx hb hU inlX7 hown hK hP mo0 hfo_49 rfl 2 (by decide) (hU _ wd_73) (fun _ h9 => h9) rfl dX7_copyFrom_32 ?_
  refine lv_iconst (v := 0) hx hb dX7_copyFrom_35 (by decide) ?_
  refine lv_aload_n hx hb dX7_copyFrom_36 rfl (lv_at hl 0 rfl) ?_
  refine tk_getP (D := (dC, dI)) (ci := 7) (v := .ref a_21) (C := RX7) (T := TX7) (N := 16) hx hb hU inlX7 hown hK hP mo0 hfo_49 rfl 2 (by decide) (hU _ wd_73) (fun _ h9 => h9) rfl dX7_copyFrom_37 ?_
  obtain ⟨g_51, hfo_50, hbg_51⟩ := un_550 (hG _ ma_21) ka_21
  refine tk_alenP (v := 6) hx hb hK hP 0 ma_21 hfo_50 rfl rfl dX7_copyFrom_40 ?_
  obtain ⟨g_53, hfo_52, hbg_53⟩ := un_509 (hG _ ma_4) ka_4
  refine tk_copyP hx hb (by rw [hml]; exact hl.1.symm) hown (hU _ wd_534) (hU _ wd_253) (hU _ wd_254) (hU _ wd_255) hK hP hD hS 0 ma_4 ma_21 hfo_52 hfo_50 rfl (by decide) (by decide) (by decide) (by decide) (by decide) (Nat.le_of_ble_eq_true rfl) (Nat.le_of_ble_eq_true rfl) dX7_copyFrom_41 (fun H locs hP hD hS => ?_)
  obtain ⟨f_55, ef_55⟩ : ∃ y : Nat → va_E, y = va_up f_46 a_21 (.inl (cI, 6, .inl (va_cpy g_53 g_51 (Int32.toNatClampNeg 0) (Int32.toNatClampNeg 0) (Int32.toNatClampNeg 6)))) := ⟨_, rfl⟩
  have hP : va_P (dC, dI) vwCl (va_pl L f_55) H := by rw [ef_55]; exact hP
  have hD : va_D (fun q => q ∈ L) (va_pl L f_55) := by rw [ef_55]; exact hD
  have hG : GI (okc cI cL cZ cR cG cH L kd) kd L f_55 := by rw [ef_55]; exact hG.set a_21 (mk_550 ka_21 ⟨_, rfl, okI_cpy (fun j => by have := hbg_53 j; constructor <;> omega) hbg_51 _ _ _⟩)
  have hfo_56 : f_55 o1 = .inr (7, [.ref a_2, .int v_3, .ref a_4, .ref a_5, .ref a_6, .ref a_7, .int v_8, .ref a_9, .ref a_10, .ref a_11, .ref a_12, .ref a_13, .int v_14, .ref a_15, .ref a_16, .ref a_17]) := by rw [ef_55, up_ne (kd_ne ka_21 ko1 (by decide))]; exact hfo_47
  have hfo_57 : f_55 a_2 = .inl (cI, 26, .inl g_38) := by rw [ef_55, up_ne (kd_ne ka_21 ka_2 (by decide))]; exact hfo_48
  have hfo_58 : f_55 o0 = .inr (7, [.ref a_19, .int v_3, .ref a_21, .ref a_22, .ref a_23, .ref a_24, .int v_25, .ref a_26, .ref a_27, .ref a_28, .ref a_29, .ref a_30, .int v_31, .ref a_32, .ref a_33, .ref a_34]) := by rw [ef_55, up_ne (kd_ne ka_21 ko0 (by decide))]; exact hfo_49
  have hfo_59 : f_55 a_4 = .inl (cI, 6, .inl g_53) := by rw [ef_55, up_ne (kd_ne ka_21 ka_4 (by decide))]; exact hfo_52
  have hfr0 : ∀ b, kd b ≠ 104 → kd b ≠ 105 → kd b ≠ 107 → kd b ≠ 109 → kd b ≠ 113 → kd b ≠ 541 → kd b ≠ 542 → kd b ≠ 543 → kd b ≠ 544 → kd b ≠ 545 → kd b ≠ 546 → kd b ≠ 547 → kd b ≠ 548 → kd b ≠ 549 → kd b ≠ 550 → kd b ≠ 551 → kd b ≠ 552 → kd b ≠ 555 → f_55 b = f b := fun b q104 q105 q107 q109 q113 q541 q542 q543 q544 q545 q546 q547 q548 q549 q550 q551 q552 q555 => (congrFun ef_55 b).trans ((up_ne (fun e9 => q550 (by rw [e9]; exact ka_21))).trans (hfr0 b q104 q105 q107 q109 q113 q541 q542 q543 q544 q545 q546 q547 q548 q549 q550 q551 q552 q555))
  have hrr107_0 : ∀ b, kd b = 107 → fldR (f_55 b) 0 = fldR (f b) 0 := fun b kb => (congrArg (fun x => fldR x 0) ((congrFun ef_55 b).trans (up_ne (kd_ne ka_21 kb (by decide))))).trans (hrr107_0 b kb)
  have hrr107_3 : ∀ b, kd b = 107 → fldR (f_55 b) 3 = fldR (f b) 3 := fun b kb => (congrArg (fun x => fldR x 3) ((congrFun ef_55 b).trans (up_ne (kd_ne ka_21 kb (by decide))))).trans (hrr107_3 b kb)
  have hrr107_11 : ∀ b, kd b = 107 → fldR (f_55 b) 11 = fldR (f b) 11 := fun b kb => (congrArg (fun x => fldR x 11) ((congrFun ef_55 b).trans (up_ne (kd_ne ka_21 kb (by decide))))).trans (hrr107_11 b kb)
  have hfo_60 : f_55 a_21 = .inl (cI, 6, .inl (va_cpy g_53 g_51 (Int32.toNatClampNeg 0) (Int32.toNatClampNeg 0) (Int32.toNatClampNeg 6))) := by rw [ef_55]; exact up_self
  refine lv_aload_n hx hb dX7_copyFrom_44 rfl (lv_at hl 1 rfl) ?_
  refine tk_getP (D := (dC, dI)) (ci := 7) (v := .ref a_5) (C := RX7) (T := TX7) (N := 16) hx hb hU inlX7 hown hK hP mo1 hfo_56 rfl 3 (by decide) (hU _ wd_74) (fun _ h9 => h9) rfl dX7_copyFrom_45 ?_
  refine lv_iconst (v := 0) hx hb dX7_copyFrom_48 (by decide) ?_
  refine lv_aload_n hx hb dX7_copyFrom_49 rfl (lv_at hl 0 rfl) ?_
  refine tk_getP (D := (dC, dI)) (ci := 7) (v := .ref a_22) (C := RX7) (T := TX7) (N := 16) hx hb hU inlX7 hown hK hP mo0 hfo_58 rfl 3 (by decide) (hU _ wd_74) (fun _ h9 => h9) rfl dX7_copyFrom_50 ?_
  refine lv_iconst (v := 0) hx hb dX7_copyFrom_53 (by decide) ?_
  refine lv_aload_n hx hb dX7_copyFrom_54 rfl (lv_at hl 0 rfl) ?_
  refine tk_getP (D := (dC, dI)) (ci := 7) (v := .ref a_22) (C := RX7) (T := TX7) (N := 16) hx hb hU inlX7 hown hK hP mo0 hfo_58 rfl 3 (by decide) (hU _ wd_74) (fun _ h9 => h9) rfl dX7_copyFrom_55 ?_
  obtain ⟨g_62, hfo_61, hbg_62⟩ := un_551 (hG _ ma_22) ka_22
  refine tk_alenP (v := 81) hx hb hK hP 0 ma_22 hfo_61 rfl rfl dX7_copyFrom_58 ?_
  obtain ⟨g_64, hfo_63, hbg_64⟩ := un_510 (hG _ ma_5) ka_5
  refine tk_copyP hx hb (by rw [hml]; exact hl.1.symm) hown (hU _ wd_534) (hU _ wd_253) (hU _ wd_254) (hU _ wd_255) hK hP hD hS 0 ma_5 ma_22 hfo_63 hfo_61 rfl (by decide) (by decide) (by decide) (by decide) (by decide) (Nat.le_of_ble_eq_true rfl) (Nat.le_of_ble_eq_true rfl) dX7_copyFrom_59 (fun H locs hP hD hS => ?_)
  obtain ⟨f_66, ef_66⟩ : ∃ y : Nat → va_E, y = va_up f_55 a_22 (.inl (cI, 81, .inl (va_cpy g_64 g_62 (Int32.toNatClampNeg 0) (Int32.toNatClampNeg 0) (Int32.toNatClampNeg 81)))) := ⟨_, rfl⟩
  have hP : va_P (dC, dI) vwCl (va_pl L f_66) H := by rw [ef_66]; exact hP
  have hD : va_D (fun q => q ∈ L) (va_pl L f_66) := by rw [ef_66]; exact hD
  have hG : GI (okc cI cL cZ cR cG cH L kd) kd L f_66 := by rw [ef_66]; exact hG.set a_22 (mk_551 ka_22 ⟨_, rfl, okI_cpy (fun j => by have := hbg_64 j; constructor <;> omega) hbg_62 _ _ _⟩)
  have hfo_67 : f_66 o1 = .inr (7, [.ref a_2, .int v_3, .ref a_4, .ref a_5, .ref a_6, .ref a_7, .int v_8, .ref a_9, .ref a_10, .ref a_11, .ref a_12, .ref a_13, .int v_14, .ref a_15, .ref a_16, .ref a_17]) := by rw [ef_66, up_ne (kd_ne ka_22 ko1 (by decide))]; exact hfo_56
  have hfo_68 : f_66 a_2 = .inl (cI, 26, .inl g_38) := by rw [ef_66, up_ne (kd_ne ka_22 ka_2 (by decide))]; exact hfo_57
  have hfo_69 : f_66 o0 = .inr (7, [.ref a_19, .int v_3, .ref a_21, .ref a_22, .ref a_23, .ref a_24, .int v_25, .ref a_26, .ref a_27, .ref a_28, .ref a_29, .ref a_30, .int v_31, .ref a_32, .ref a_33, .ref a_34]) := by rw [ef_66, up_ne (kd_ne ka_22 ko0 (by decide))]; exact hfo_58
  have hfo_70 : f_66 a_4 = .inl (cI, 6, .inl g_53) := by rw [ef_66, up_ne (kd_ne ka_22 ka_4 (by decide))]; exact hfo_59
  have hfo_71 : f_66 a_5 = .inl (cI, 81, .inl g_64) := by rw [ef_66, up_ne (kd_ne ka_22 ka_5 (by decide))]; exact hfo_63
  have hfr0 : ∀ b, kd b ≠ 104 → kd b ≠ 105 → kd b ≠ 107 → kd b ≠ 109 → kd b ≠ 113 → kd b ≠ 541 → kd b ≠ 542 → kd b ≠ 543 → kd b ≠ 544 → kd b ≠ 545 → kd b ≠ 546 → kd b ≠ 547 → kd b ≠ 548 → kd b ≠ 549 → kd b ≠ 550 → kd b ≠ 551 → kd b ≠ 552 → kd b ≠ 555 → f_66 b = f b := fun b q104 q105 q107 q109 q113 q541 q542 q543 q544 q545 q546 q547 q548 q549 q550 q551 q552 q555 => (congrFun ef_66 b).trans ((up_ne (fun e9 => q551 (by rw [e9]; exact ka_22))).trans (hfr0 b q104 q105 q107 q109 q113 q541 q542 q543 q544 q545 q546 q547 q548 q549 q550 q551 q552 q555))
  have hrr107_0 : ∀ b, kd b = 107 → fldR (f_66 b) 0 = fldR (f b) 0 := fun b kb => (congrArg (fun x => fldR x 0) ((congrFun ef_66 b).trans (up_ne (kd_ne ka_22 kb (by decide))))).trans (hrr107_0 b kb)
  have hrr107_3 : ∀ b, kd b = 107 → fldR (f_66 b) 3 = fldR (f b) 3 := fun b kb => (congrArg (fun x => fldR x 3) ((congrFun ef_66 b).trans (up_ne (kd_ne ka_22 kb (by decide))))).trans (hrr107_3 b kb)
  have hrr107_11 : ∀ b, kd b = 107 → fldR (f_66 b) 11 = fldR (f b) 11 := fun b kb => (congrArg (fun x => fldR x 11) ((congrFun ef_66 b).trans (up_ne (kd_ne ka_22 kb (by decide))))).trans (hrr107_11 b kb)
  have hfo_72 : f_66 a_22 = .inl (cI, 81, .inl (va_cpy g_64 g_62 (Int32.toNatClampNeg 0) (Int32.toNatClampNeg 0) (Int32.toNatClampNeg 81))) := by rw [ef_66]; exact up_self
  refine lv_aload_n hx hb dX7_copyFrom_62 rfl (lv_at hl 1 rfl) ?_
  refine tk_getP (D := (dC, dI)) (ci := 7) (v := .ref a_6) (C := RX7) (T := TX7) (N := 16) hx hb hU inlX7 hown hK hP mo1 hfo_67 rfl 4 (by decide) (hU _ wd_75) (fun _ h9 => h9) rfl dX7_copyFrom_63 ?_
  refine lv_iconst (v := 0) hx hb dX7_copyFrom_66 (by decide) ?_
  refine lv_aload_n hx hb dX7_copyFrom_67 rfl (lv_at hl 0 rfl) ?_
  refine tk_getP (D := (dC, dI)) (ci := 7) (v := .ref a_23) (C := RX7) (T := TX7) (N := 16) hx hb hU inlX7 hown hK hP mo0 hfo_69 rfl 4 (by decide) (hU _ wd_75) (fun _ h9 => h9) rfl dX7_copyFrom_68 ?_
  refine lv_iconst (v := 0) hx hb dX7_copyFrom_71 (by decide) ?_
  refine lv_aload_n hx hb dX7_copyFrom_72 rfl (lv_at hl 0 rfl) ?_
  refine tk_getP (D := (dC, dI)) (ci := 7) (v := .ref a_23) (C := RX7) (T := TX7) (N := 16) hx hb hU inlX7 hown hK hP mo0 hfo_69 rfl 4 (by decide) (hU _ wd_75) (fun _ h9 => h9) rfl dX7_copyFrom_73 ?_
  obtain ⟨g_74, hfo_73, hbg_74⟩ := un_552 (hG _ ma_23) ka_23
  refine tk_alenP (v := 20) hx hb hK hP 0 ma_23 hfo_73 rfl rfl dX7_copyFrom_76 ?_
  obtain ⟨g_76, hfo_75, hbg_76⟩ := un_511 (hG _ ma_6) ka_6
  refine tk_copyP hx hb (by rw [hml]; exact hl.1.symm) hown (hU _ wd_534) (hU _ wd_253) (hU _ wd_254) (hU _ wd_255) hK hP hD hS 0 ma_6 ma_23 hfo_75 hfo_73 rfl (by decide) (by decide) (by decide) (by decide) (by decide) (Nat.le_of_ble_eq_true rfl) (Nat.le_of_ble_eq_true rfl) dX7_copyFrom_77 (fun H locs hP hD hS => ?_)
  obtain ⟨f_78, ef_78⟩ : ∃ y : Nat → va_E, y = va_up f_66 a_23 (.inl (cI, 20, .inl (va_cpy g_76 g_74 (Int32.toNatClampNeg 0) (Int32.toNatClampNeg 0) (Int32.toNatClampNeg 20)))) := ⟨_, rfl⟩
  have hP : va_P (dC, dI) vwCl (va_pl L f_78) H := by rw [ef_78]; exact hP
  have hD : va_D (fun q => q ∈ L) (va_pl L f_78) := by rw [ef_78]; exact hD
  have hG : GI (okc cI cL cZ cR cG cH L kd) kd L f_78 := by rw [ef_78]; exact hG.set a_23 (mk_552 ka_23 ⟨_, rfl, okI_cpy (fun j => by have := hbg_76 j; constructor <;> omega) hbg_74 _ _ _⟩)
  have hfo_79 : f_78 o1 = .inr (7, [.ref a_2, .int v_3, .ref a_4, .ref a_5, .ref a_6, .ref a_7, .int v_8, .ref a_9, .ref a_10, .ref a_11, .ref a_12, .ref a_13, .int v_14, .ref a_15, .ref a_16, .ref a_17]) := by rw [ef_78, up_ne (kd_ne ka_23 ko1 (by decide))]; exact hfo_67
  have hfo_80 : f_78 a_2 = .inl (cI, 26, .inl g_38) := by rw [ef_78, up_ne (kd_ne ka_23 ka_2 (by decide))]; exact hfo_68
  have hfo_81 : f_78 o0 = .inr (7, [.ref a_19, .int v_3, .ref a_21, .ref a_22, .ref a_23, .ref a_24, .int v_25, .ref a_26, .ref a_27, .ref a_28, .ref a_29, .ref a_30, .int v_31, .ref a_32, .ref a_33, .ref a_34]) := by rw [ef_78, up_ne (kd_ne ka_23 ko0 (by decide))]; exact hfo_69
  have hfo_82 : f_78 a_4 = .inl (cI, 6, .inl g_53) := by rw [ef_78, up_ne (kd_ne ka_23 ka_4 (by decide))]; exact hfo_70
  have hfo_83 : f_78 a_5 = .inl (cI, 81, .inl g_64) := by rw [ef_78, up_ne (kd_ne ka_23 ka_5 (by decide))]; exact hfo_71
  have hfo_84 : f_78 a_6 = .inl (cI, 20, .inl g_76) := by rw [ef_78, up_ne (kd_ne ka_23 ka_6 (by decide))]; exact hfo_75
  have hfr0 : ∀ b, kd b ≠ 104 → kd b ≠ 105 → kd b ≠ 107 → kd b ≠ 109 → kd b ≠ 113 → kd b ≠ 541 → kd b ≠ 542 → kd b ≠ 543 → kd b ≠ 544 → kd b ≠ 545 → kd b ≠ 546 → kd b ≠ 547 → kd b ≠ 548 → kd b ≠ 549 → kd b ≠ 550 → kd b ≠ 551 → kd b ≠ 552 → kd b ≠ 555 → f_78 b = f b := fun b q104 q105 q107 q109 q113 q541 q542 q543 q544 q545 q546 q547 q548 q549 q550 q551 q552 q555 => (congrFun ef_78 b).trans ((up_ne (fun e9 => q552 (by rw [e9]; exact ka_23))).trans (hfr0 b q104 q105 q107 q109 q113 q541 q542 q543 q544 q545 q546 q547 q548 q549 q550 q551 q552 q555))
  have hrr107_0 : ∀ b, kd b = 107 → fldR (f_78 b) 0 = fldR (f b) 0 := fun b kb => (congrArg (fun x => fldR x 0) ((congrFun ef_78 b).trans (up_ne (kd_ne ka_23 kb (by decide))))).trans (hrr107_0 b kb)
  have hrr107_3 : ∀ b, kd b = 107 → fldR (f_78 b) 3 = fldR (f b) 3 := fun b kb => (congrArg (fun x => fldR x 3) ((congrFun ef_78 b).trans (up_ne (kd_ne ka_23 kb (by decide))))).trans (hrr107_3 b kb)
  have hrr107_11 : ∀ b, kd b = 107 → fldR (f_78 b) 11 = fldR (f b) 11 := fun b kb => (congrArg (fun x => fldR x 11) ((congrFun ef_78 b).trans (up_ne (kd_ne ka_23 kb (by decide))))).trans (hrr107_11 b kb)
  have hfo_85 : f_78 a_23 = .inl (cI, 20, .inl (va_cpy g_76 g_74 (Int32.toNatClampNeg 0) (Int32.toNatClampNeg 0) (Int32.toNatClampNeg 20))) := by rw [ef_78]; exact up_self
  refine lv_aload_n hx hb dX7_copyFrom_80 rfl (lv_at hl 1 rfl) ?_
  refine tk_getP (D := (dC, dI)) (ci := 7) (v := .ref a_7) (C := RX7) (T := TX7) (N := 16) hx hb hU inlX7 hown hK hP mo1 hfo_79 rfl 5 (by decide) (hU _ wd_76) (fun _ h9 => h9) rfl dX7_copyFrom_81 ?_
  refine lv_iconst (v := 0) hx hb dX7_copyFrom_84 (by decide) ?_
  refine lv_aload_n hx hb dX7_copyFrom_85 rfl (lv_at hl 0 rfl) ?_
  refine tk_getP (D := (dC, dI)) (ci := 7) (v := .ref a_24) (C := RX7) (T := TX7) (N := 16) hx hb hU inlX7 hown hK hP mo0 hfo_81 rfl 5 (by decide) (hU _ wd_76) (fun _ h9 => h9) rfl dX7_copyFrom_86 ?_
  refine lv_iconst (v := 0) hx hb dX7_copyFrom_89 (by decide) ?_
  refine lv_aload_n hx hb dX7_copyFrom_90 rfl (lv_at hl 0 rfl) ?_
  refine tk_getP (D := (dC, dI)) (ci := 7) (v := .ref a_24) (C := RX7) (T := TX7) (N := 16) hx hb hU inlX7 hown hK hP mo0 hfo_81 rfl 5 (by decide) (hU _ wd_76) (fun _ h9 => h9) rfl dX7_copyFrom_91 ?_
  obtain ⟨g_87, hfo_86, hbg_87⟩ := un_552 (hG _ ma_24) ka_24
  refine tk_alenP (v := 20) hx hb hK hP 0 ma_24 hfo_86 rfl rfl dX7_copyFrom_94 ?_
  obtain ⟨g_89, hfo_88, hbg_89⟩ := un_511 (hG _ ma_7) ka_7
  refine tk_copyP hx hb (by rw [hml]; exact hl.1.symm) hown (hU _ wd_534) (hU _ wd_253) (hU _ wd_254) (hU _ wd_255) hK hP hD hS 0 ma_7 ma_24 hfo_88 hfo_86 rfl (by decide) (by decide) (by decide) (by decide) (by decide) (Nat.le_of_ble_eq_true rfl) (Nat.le_of_ble_eq_true rfl) dX7_copyFrom_95 (fun H locs hP hD hS => ?_)
  obtain ⟨f_91, ef_91⟩ : ∃ y : Nat → va_E, y = va_up f_78 a_24 (.inl (cI, 20, .inl (va_cpy g_89 g_87 (Int32.toNatClampNeg 0) (Int32.toNatClampNeg 0) (Int32.toNatClampNeg 20)))) := ⟨_, rfl⟩
  have hP : va_P (dC, dI) vwCl (va_pl L f_91) H := by rw [ef_91]; exact hP
  have hD : va_D (fun q => q ∈ L) (va_pl L f_91) := by rw [ef_91]; exact hD
  have hG : GI (okc cI cL cZ cR cG cH L kd) kd L f_91 := by rw [ef_91]; exact hG.set a_24 (mk_552 ka_24 ⟨_, rfl, okI_cpy (fun j => by have := hbg_89 j; constructor <;> omega) hbg_87 _ _ _⟩)
  have hfo_92 : f_91 o1 = .inr (7, [.ref a_2, .int v_3, .ref a_4, .ref a_5, .ref a_6, .ref a_7, .int v_8, .ref a_9, .ref a_10, .ref a_11, .ref a_12, .ref a_13, .int v_14, .ref a_15, .ref a_16, .ref a_17]) := by rw [ef_91, up_ne (kd_ne ka_24 ko1 (by decide))]; exact hfo_79
  have hfo_93 : f_91 a_2 = .inl (cI, 26, .inl g_38) := by rw [ef_91, up_ne (kd_ne ka_24 ka_2 (by decide))]; exact hfo_80
  have hfo_94 : f_91 o0 = .inr (7, [.ref a_19, .int v_3, .ref a_21, .ref a_22, .ref a_23, .ref a_24, .int v_25, .ref a_26, .ref a_27, .ref a_28, .ref a_29, .ref a_30, .int v_31, .ref a_32, .ref a_33, .ref a_34]) := by rw [ef_91, up_ne (kd_ne ka_24 ko0 (by decide))]; exact hfo_81
  have hfo_95 : f_91 a_4 = .inl (cI, 6, .inl g_53) := by rw [ef_91, up_ne (kd_ne ka_24 ka_4 (by decide))]; exact hfo_82
  have hfo_96 : f_91 a_5 = .inl (cI, 81, .inl g_64) := by rw [ef_91, up_ne (kd_ne ka_24 ka_5 (by decide))]; exact hfo_83
  have hfo_97 : f_91 a_6 = .inl (cI, 20, .inl g_76) := by rw [ef_91, up_ne (kd_ne ka_24 ka_6 (by decide))]; exact hfo_84
  have hfo_98 : f_91 a_7 = .inl (cI, 20, .inl g_89) := by rw [ef_91, up_ne (kd_ne ka_24 ka_7 (by decide))]; exact hfo_88
  have hfr0 : ∀ b, kd b ≠ 104 → kd b ≠ 105 → kd b ≠ 107 → kd b ≠ 109 → kd b ≠ 113 → kd b ≠ 541 → kd b ≠ 542 → kd b ≠ 543 → kd b ≠ 544 → kd b ≠ 545 → kd b ≠ 546 → kd b ≠ 547 → kd b ≠ 548 → kd b ≠ 549 → kd b ≠ 550 → kd b ≠ 551 → kd b ≠ 552 → kd b ≠ 555 → f_91 b = f b := fun b q104 q105 q107 q109 q113 q541 q542 q543 q544 q545 q546 q547 q548 q549 q550 q551 q552 q555 => (congrFun ef_91 b).trans ((up_ne (fun e9 => q552 (by rw [e9]; exact ka_24))).trans (hfr0 b q104 q105 q107 q109 q113 q541 q542 q543 q544 q545 q546 q547 q548 q549 q550 q551 q552 q555))
  have hrr107_0 : ∀ b, kd b = 107 → fldR (f_91 b) 0 = fldR (f b) 0 := fun b kb => (congrArg (fun x => fldR x 0) ((congrFun ef_91 b).trans (up_ne (kd_ne ka_24 kb (by decide))))).trans (hrr107_0 b kb)
  have hrr107_3 : ∀ b, kd b = 107 → fldR (f_91 b) 3 = fldR (f b) 3 := fun b kb => (congrArg (fun x => fldR x 3) ((congrFun ef_91 b).trans (up_ne (kd_ne ka_24 kb (by decide))))).trans (hrr107_3 b kb)
  have hrr107_11 : ∀ b, kd b = 107 → fldR (f_91 b) 11 = fldR (f b) 11 := fun b kb => (congrArg (fun x => fldR x 11) ((congrFun ef_91 b).trans (up_ne (kd_ne ka_24 kb (by decide))))).trans (hrr107_11 b kb)
  have hfo_99 : f_91 a_24 = .inl (cI, 20, .inl (va_cpy g_89 g_87 (Int32.toNatClampNeg 0) (Int32.toNatClampNeg 0) (Int32.toNatClampNeg 20))) := by rw [ef_91]; exact up_self
  refine lv_aload_n hx hb dX7_copyFrom_98 rfl (lv_at hl 0 rfl) ?_
  refine lv_aload_n hx hb dX7_copyFrom_99 rfl (lv_at hl 1 rfl) ?_
  refine tk_getP (D := (dC, dI)) (ci := 7) (v := .int v_8) (C := RX7) (T := TX7) (N := 16) hx hb hU inlX7 hown hK hP mo1 hfo_92 rfl 6 (by decide) (hU _ wd_263) (fun _ h9 => h9) rfl dX7_copyFrom_100 ?_
  refine tk_putP (D := (dC, dI)) (ci := 7) (v := .int v_8) (ty := .int) (C := RX7) (T := TX7) (N := 16) hx hb hU inlX7 tyX7 tyX7_ok nmX7 hown hK hP hD hS mo0 hfo_94 rfl 6 (by decide) (hU _ wd_263) (fun _ h9 => h9) rfl (by decide +kernel) rfl rfl (Nat.le_of_ble_eq_true rfl) dX7_copyFrom_103 (fun H locs hP hD hS => ?_)
  obtain ⟨f_101, ef_101⟩ : ∃ y : Nat → va_E, y = va_up f_91 o0 (.inr (7, [.ref a_19, .int v_3, .ref a_21, .ref a_22, .ref a_23, .ref a_24, .int v_8, .ref a_26, .ref a_27, .ref a_28, .ref a_29, .ref a_30, .int v_31, .ref a_32, .ref a_33, .ref a_34])) := ⟨_, rfl⟩
  have hP : va_P (dC, dI) vwCl (va_pl L f_101) H := by rw [ef_101]; exact hP
  have hD : va_D (fun q => q ∈ L) (va_pl L f_101) := by rw [ef_101]; exact hD
  have hG : GI (okc cI cL cZ cR cG cH L kd) kd L f_101 := by rw [ef_101]; exact hG.set o0 (mk_107 ko0 ⟨a_19, v_3, a_21, a_22, a_23, a_24, v_8, a_26, a_27, a_28, a_29, a_30, v_31, a_32, a_33, a_34, rfl, ⟨ma_19, ka_19⟩, (by constructor <;> omega), ⟨ma_21, ka_21⟩, ⟨ma_22, ka_22⟩, ⟨ma_23, ka_23⟩, ⟨ma_24, ka_24⟩, (by constructor <;> omega), ⟨ma_26, ka_26⟩, ⟨ma_27, ka_27⟩, ⟨ma_28, ka_28⟩, ⟨ma_29, ka_29⟩, ⟨ma_30, ka_30⟩, (by constructor <;> omega), ⟨ma_32, ka_32⟩, ⟨ma_33, ka_33⟩, ⟨ma_34, ka_34⟩⟩)
  have hfo_102 : f_101 o1 = .inr (7, [.ref a_2, .int v_3, .ref a_4, .ref a_5, .ref a_6, .ref a_7, .int v_8, .ref a_9, .ref a_10, .ref a_11, .ref a_12, .ref a_13, .int v_14, .ref a_15, .ref a_16, .ref a_17]) := by rw [ef_101, up_ne (kd_ne ko0 ko1 (by decide))]; exact hfo_92
  have hfo_103 : f_101 a_2 = .inl (cI, 26, .inl g_38) := by rw [ef_101, up_ne (kd_ne ko0 ka_2 (by decide))]; exact hfo_93
  have hfo_104 : f_101 a_4 = .inl (cI, 6, .inl g_53) := by rw [ef_101, up_ne (kd_ne ko0 ka_4 (by decide))]; exact hfo_95
  have hfo_105 : f_101 a_5 = .inl (cI, 81, .inl g_64) := by rw [ef_101, up_ne (kd_ne ko0 ka_5 (by decide))]; exact hfo_96
  have hfo_106 : f_101 a_6 = .inl (cI, 20, .inl g_76) := by rw [ef_101, up_ne (kd_ne ko0 ka_6 (by decide))]; exact hfo_97
  have hfo_107 : f_101 a_7 = .inl (cI, 20, .inl g_89) := by rw [ef_101, up_ne (kd_ne ko0 ka_7 (by decide))]; exact hfo_98
  have hfr0 : ∀ b, kd b ≠ 104 → kd b ≠ 105 → kd b ≠ 107 → kd b ≠ 109 → kd b ≠ 113 → kd b ≠ 541 → kd b ≠ 542 → kd b ≠ 543 → kd b ≠ 544 → kd b ≠ 545 → kd b ≠ 546 → kd b ≠ 547 → kd b ≠ 548 → kd b ≠ 549 → kd b ≠ 550 → kd b ≠ 551 → kd b ≠ 552 → kd b ≠ 555 → f_101 b = f b := fun b q104 q105 q107 q109 q113 q541 q542 q543 q544 q545 q546 q547 q548 q549 q550 q551 q552 q555 => (congrFun ef_101 b).trans ((up_ne (fun e9 => q107 (by rw [e9]; exact ko0))).trans (hfr0 b q104 q105 q107 q109 q113 q541 q542 q543 q544 q545 q546 q547 q548 q549 q550 q551 q552 q555))
  have hrr107_0 : ∀ b, kd b = 107 → fldR (f_101 b) 0 = fldR (f b) 0 := fun b kb => ((congrArg (fun x => fldR x 0) (congrFun ef_101 b)).trans (fr_up (by rw [hfo_94]; rfl) b)).trans (hrr107_0 b kb)
  have hrr107_3 : ∀ b, kd b = 107 → fldR (f_101 b) 3 = fldR (f b) 3 := fun b kb => ((congrArg (fun x => fldR x 3) (congrFun ef_101 b)).trans (fr_up (by rw [hfo_94]; rfl) b)).trans (hrr107_3 b kb)
  have hrr107_11 : ∀ b, kd b = 107 → fldR (f_101 b) 11 = fldR (f b) 11 := fun b kb => ((congrArg (fun x => fldR x 11) (congrFun ef_101 b)).trans (fr_up (by rw [hfo_94]; rfl) b)).trans (hrr107_11 b kb)
  have hfo_108 : f_101 o0 = .inr (7, [.ref a_19, .int v_3, .ref a_21, .ref a_22, .ref a_23, .ref a_24, .int v_8, .ref a_26, .ref a_27, .ref a_28, .ref a_29, .ref a_30, .int v_31, .ref a_32, .ref a_33, .ref a_34]) := by rw [ef_101]; exact up_self
  refine lv_aload_n hx hb dX7_copyFrom_106 rfl (lv_at hl 1 rfl) ?_
  refine tk_getP (D := (dC, dI)) (ci := 7) (v := .ref a_11) (C := RX7) (T := TX7) (N := 16) hx hb hU inlX7 hown hK hP mo1 hfo_102 rfl 9 (by decide) (hU _ wd_79) (fun _ h9 => h9) rfl dX7_copyFrom_107 ?_
  refine lv_iconst (v := 0) hx hb dX7_copyFrom_110 (by decide) ?_
  refine lv_aload_n hx hb dX7_copyFrom_111 rfl (lv_at hl 0 rfl) ?_
  refine tk_getP (D := (dC, dI)) (ci := 7) (v := .ref a_28) (C := RX7) (T := TX7) (N := 16) hx hb hU inlX7 hown hK hP mo0 hfo_108 rfl 9 (by decide) (hU _ wd_79) (fun _ h9 => h9) rfl dX7_copyFrom_112 ?_
  refine lv_iconst (v := 0) hx hb dX7_copyFrom_115 (by decide) ?_
  refine lv_aload_n hx hb dX7_copyFrom_116 rfl (lv_at hl 0 rfl) ?_
  refine tk_getP (D := (dC, dI)) (ci := 7) (v := .ref a_28) (C := RX7) (T := TX7) (N := 16) hx hb hU inlX7 hown hK hP mo0 hfo_108 rfl 9 (by decide) (hU _ wd_79) (fun _ h9 => h9) rfl dX7_copyFrom_117 ?_
  obtain ⟨g_110, hfo_109, hbg_110⟩ := un_555 (hG _ ma_28) ka_28
  refine tk_alenP (v := 36) hx hb hK hP 0 ma_28 hfo_109 rfl rfl dX7_copyFrom_120 ?_
  obtain ⟨g_112, hfo_111, hbg_112⟩ := un_514 (hG _ ma_11) ka_11
  refine tk_copyP hx hb (by rw [hml]; exact hl.1.symm) hown (hU _ wd_534) (hU _ wd_253) (hU _ wd_254) (hU _ wd_255) hK hP hD hS 0 ma_11 ma_28 hfo_111 hfo_109 rfl (by decide) (by decide) (by decide) (by decide) (by decide) (Nat.le_of_ble_eq_true rfl) (Nat.le_of_ble_eq_true rfl) dX7_copyFrom_121 (fun H locs hP hD hS => ?_)
  obtain ⟨f_114, ef_114⟩ : ∃ y : Nat → va_E, y = va_up f_101 a_28 (.inl (cI, 36, .inl (va_cpy g_112 g_110 (Int32.toNatClampNeg 0) (Int32.toNatClampNeg 0) (Int32.toNatClampNeg 36)))) := ⟨_, rfl⟩
  have hP : va_P (dC, dI) vwCl (va_pl L f_114) H := by rw [ef_114]; exact hP
  have hD : va_D (fun q => q ∈ L) (va_pl L f_114) := by rw [ef_114]; exact hD
  have hG : GI (okc cI cL cZ cR cG cH L kd) kd L f_114 := by rw [ef_114]; exact hG.set a_28 (mk_555 ka_28 ⟨_, rfl, okI_cpy (fun j => by have := hbg_112 j; constructor <;> omega) hbg_110 _ _ _⟩)
  have hfo_115 : f_114 o1 = .inr (7, [.ref a_2, .int v_3, .ref a_4, .ref a_5, .ref a_6, .ref a_7, .int v_8, .ref a_9, .ref a_10, .ref a_11, .ref a_12, .ref a_13, .int v_14, .ref a_15, .ref a_16, .ref a_17]) := by rw [ef_114, up_ne (kd_ne ka_28 ko1 (by decide))]; exact hfo_102
  have hfo_116 : f_114 a_2 = .inl (cI, 26, .inl g_38) := by rw [ef_114, up_ne (kd_ne ka_28 ka_2 (by decide))]; exact hfo_103
  have hfo_117 : f_114 a_4 = .inl (cI, 6, .inl g_53) := by rw [ef_114, up_ne (kd_ne ka_28 ka_4 (by decide))]; exact hfo_104
  have hfo_118 : f_114 a_5 = .inl (cI, 81, .inl g_64) := by rw [ef_114, up_ne (kd_ne ka_28 ka_5 (by decide))]; exact hfo_105
  have hfo_119 : f_114 a_6 = .inl (cI, 20, .inl g_76) := by rw [ef_114, up_ne (kd_ne ka_28 ka_6 (by decide))]; exact hfo_106
  have hfo_120 : f_114 a_7 = .inl (cI, 20, .inl g_89) := by rw [ef_114, up_ne (kd_ne ka_28 ka_7 (by decide))]; exact hfo_107
  have hfo_121 : f_114 o0 = .inr (7, [.ref a_19, .int v_3, .ref a_21, .ref a_22, .ref a_23, .ref a_24, .int v_8, .ref a_26, .ref a_27, .ref a_28, .ref a_29, .ref a_30, .int v_31, .ref a_32, .ref a_33, .ref a_34]) := by rw [ef_114, up_ne (kd_ne ka_28 ko0 (by decide))]; exact hfo_108
  have hfo_122 : f_114 a_11 = .inl (cI, 36, .inl g_112) := by rw [ef_114, up_ne (kd_ne ka_28 ka_11 (by decide))]; exact hfo_111
  have hfr0 : ∀ b, kd b ≠ 104 → kd b ≠ 105 → kd b ≠ 107 → kd b ≠ 109 → kd b ≠ 113 → kd b ≠ 541 → kd b ≠ 542 → kd b ≠ 543 → kd b ≠ 544 → kd b ≠ 545 → kd b ≠ 546 → kd b ≠ 547 → kd b ≠ 548 → kd b ≠ 549 → kd b ≠ 550 → kd b ≠ 551 → kd b ≠ 552 → kd b ≠ 555 → f_114 b = f b := fun b q104 q105 q107 q109 q113 q541 q542 q543 q544 q545 q546 q547 q548 q549 q550 q551 q552 q555 => (congrFun ef_114 b).trans ((up_ne (fun e9 => q555 (by rw [e9]; exact ka_28))).trans (hfr0 b q104 q105 q107 q109 q113 q541 q542 q543 q544 q545 q546 q547 q548 q549 q550 q551 q552 q555))
  have hrr107_0 : ∀ b, kd b = 107 → fldR (f_114 b) 0 = fldR (f b) 0 := fun b kb => (congrArg (fun x => fldR x 0) ((congrFun ef_114 b).trans (up_ne (kd_ne ka_28 kb (by decide))))).trans (hrr107_0 b kb)
  have hrr107_3 : ∀ b, kd b = 107 → fldR (f_114 b) 3 = fldR (f b) 3 := fun b kb => (congrArg (fun x => fldR x 3) ((congrFun ef_114 b).trans (up_ne (kd_ne ka_28 kb (by decide))))).trans (hrr107_3 b kb)
  have hrr107_11 : ∀ b, kd b = 107 → fldR (f_114 b) 11 = fldR (f b) 11 := fun b kb => (congrArg (fun x => fldR x 11) ((congrFun ef_114 b).trans (up_ne (kd_ne ka_28 kb (by decide))))).trans (hrr107_11 b kb)
  have hfo_123 : f_114 a_28 = .inl (cI, 36, .inl (va_cpy g_112 g_110 (Int32.toNatClampNeg 0) (Int32.toNatClampNeg 0) (Int32.toNatClampNeg 36))) := by rw [ef_114]; exact up_self
  refine lv_aload_n hx hb dX7_copyFrom_124 rfl (lv_at hl 1 rfl) ?_
  refine tk_getP (D := (dC, dI)) (ci := 7) (v := .ref a_12) (C := RX7) (T := TX7) (N := 16) hx hb hU inlX7 hown hK hP mo1 hfo_115 rfl 10 (by decide) (hU _ wd_80) (fun _ h9 => h9) rfl dX7_copyFrom_125 ?_
  refine lv_iconst (v := 0) hx hb dX7_copyFrom_128 (by decide) ?_
  refine lv_aload_n hx hb dX7_copyFrom_129 rfl (lv_at hl 0 rfl) ?_
  refine tk_getP (D := (dC, dI)) (ci := 7) (v := .ref a_29) (C := RX7) (T := TX7) (N := 16) hx hb hU inlX7 hown hK hP mo0 hfo_121 rfl 10 (by decide) (hU _ wd_80) (fun _ h9 => h9) rfl dX7_copyFrom_130 ?_
  refine lv_iconst (v := 0) hx hb dX7_copyFrom_133 (by decide) ?_
  refine lv_aload_n hx hb dX7_copyFrom_134 rfl (lv_at hl 0 rfl) ?_
  refine tk_getP (D := (dC, dI)) (ci := 7) (v := .ref a_29) (C := RX7) (T := TX7) (N := 16) hx hb hU inlX7 hown hK hP mo0 hfo_121 rfl 10 (by decide) (hU _ wd_80) (fun _ h9 => h9) rfl dX7_copyFrom_135 ?_
  obtain ⟨g_125, hfo_124, hbg_125⟩ := un_555 (hG _ ma_29) ka_29
  refine tk_alenP (v := 36) hx hb hK hP 0 ma_29 hfo_124 rfl rfl dX7_copyFrom_138 ?_
  obtain ⟨g_127, hfo_126, hbg_127⟩ := un_514 (hG _ ma_12) ka_12
  refine tk_copyP hx hb (by rw [hml]; exact hl.1.symm) hown (hU _ wd_534) (hU _ wd_253) (hU _ wd_254) (hU _ wd_255) hK hP hD hS 0 ma_12 ma_29 hfo_126 hfo_124 rfl (by decide) (by decide) (by decide) (by decide) (by decide) (Nat.le_of_ble_eq_true rfl) (Nat.le_of_ble_eq_true rfl) dX7_copyFrom_139 (fun H locs hP hD hS => ?_)
  obtain ⟨f_129, ef_129⟩ : ∃ y : Nat → va_E, y = va_up f_114 a_29 (.inl (cI, 36, .inl (va_cpy g_127 g_125 (Int32.toNatClampNeg 0) (Int32.toNatClampNeg 0) (Int32.toNatClampNeg 36)))) := ⟨_, rfl⟩
  have hP : va_P (dC, dI) vwCl (va_pl L f_129) H := by rw [ef_129]; exact hP
  have hD : va_D (fun q => q ∈ L) (va_pl L f_129) := by rw [ef_129]; exact hD
  have hG : GI (okc cI cL cZ cR cG cH L kd) kd L f_129 := by rw [ef_129]; exact hG.set a_29 (mk_555 ka_29 ⟨_, rfl, okI_cpy (fun j => by have := hbg_127 j; constructor <;> omega) hbg_125 _ _ _⟩)
  have hfo_130 : f_129 o1 = .inr (7, [.ref a_2, .int v_3, .ref a_4, .ref a_5, .ref a_6, .ref a_7, .int v_8, .ref a_9, .ref a_10, .ref a_11, .ref a_12, .ref a_13, .int v_14, .ref a_15, .ref a_16, .ref a_17]) := by rw [ef_129, up_ne (kd_ne ka_29 ko1 (by decide))]; exact hfo_115
  have hfo_131 : f_129 a_2 = .inl (cI, 26, .inl g_38) := by rw [ef_129, up_ne (kd_ne ka_29 ka_2 (by decide))]; exact hfo_116
  have hfo_132 : f_129 a_4 = .inl (cI, 6, .inl g_53) := by rw [ef_129, up_ne (kd_ne ka_29 ka_4 (by decide))]; exact hfo_117
  have hfo_133 : f_129 a_5 = .inl (cI, 81, .inl g_64) := by rw [ef_129, up_ne (kd_ne ka_29 ka_5 (by decide))]; exact hfo_118
  have hfo_134 : f_129 a_6 = .inl (cI, 20, .inl g_76) := by rw [ef_129, up_ne (kd_ne ka_29 ka_6 (by decide))]; exact hfo_119
  have hfo_135 : f_129 a_7 = .inl (cI, 20, .inl g_89) := by rw [ef_129, up_ne (kd_ne ka_29 ka_7 (by decide))]; exact hfo_120
  have hfo_136 : f_129 o0 = .inr (7, [.ref a_19, .int v_3, .ref a_21, .ref a_22, .ref a_23, .ref a_24, .int v_8, .ref a_26, .ref a_27, .ref a_28, .ref a_29, .ref a_30, .int v_31, .ref a_32, .ref a_33, .ref a_34]) := by rw [ef_129, up_ne (kd_ne ka_29 ko0 (by decide))]; exact hfo_121
  have hfo_137 : f_129 a_11 = .inl (cI, 36, .inl g_112) := by rw [ef_129, up_ne (kd_ne ka_29 ka_11 (by decide))]; exact hfo_122
  have hfo_138 : f_129 a_12 = .inl (cI, 36, .inl g_127) := by rw [ef_129, up_ne (kd_ne ka_29 ka_12 (by decide))]; exact hfo_126
  have hfr0 : ∀ b, kd b ≠ 104 → kd b ≠ 105 → kd b ≠ 107 → kd b ≠ 109 → kd b ≠ 113 → kd b ≠ 541 → kd b ≠ 542 → kd b ≠ 543 → kd b ≠ 544 → kd b ≠ 545 → kd b ≠ 546 → kd b ≠ 547 → kd b ≠ 548 → kd b ≠ 549 → kd b ≠ 550 → kd b ≠ 551 → kd b ≠ 552 → kd b ≠ 555 → f_129 b = f b := fun b q104 q105 q107 q109 q113 q541 q542 q543 q544 q545 q546 q547 q548 q549 q550 q551 q552 q555 => (congrFun ef_129 b).trans ((up_ne (fun e9 => q555 (by rw [e9]; exact ka_29))).trans (hfr0 b q104 q105 q107 q109 q113 q541 q542 q543 q544 q545 q546 q547 q548 q549 q550 q551 q552 q555))
  have hrr107_0 : ∀ b, kd b = 107 → fldR (f_129 b) 0 = fldR (f b) 0 := fun b kb => (congrArg (fun x => fldR x 0) ((congrFun ef_129 b).trans (up_ne (kd_ne ka_29 kb (by decide))))).trans (hrr107_0 b kb)
  have hrr107_3 : ∀ b, kd b = 107 → fldR (f_129 b) 3 = fldR (f b) 3 := fun b kb => (congrArg (fun x => fldR x 3) ((congrFun ef_129 b).trans (up_ne (kd_ne ka_29 kb (by decide))))).trans (hrr107_3 b kb)
  have hrr107_11 : ∀ b, kd b = 107 → fldR (f_129 b) 11 = fldR (f b) 11 := fun b kb => (congrArg (fun x => fldR x 11) ((congrFun ef_129 b).trans (up_ne (kd_ne ka_29 kb (by decide))))).trans (hrr107_11 b kb)
  have hfo_139 : f_129 a_29 = .inl (cI, 36, .inl (va_cpy g_127 g_125 (Int32.toNatClampNeg 0) (Int32.toNatClampNeg 0) (Int32.toNatClampNeg 36))) := by rw [ef_129]; exact up_self
  refine lv_aload_n hx hb dX7_copyFrom_142 rfl (lv_at hl 0 rfl) ?_
  refine lv_aload_n hx hb dX7_copyFrom_143 rfl (lv_at hl 1 rfl) ?_
  refine tk_getP (D := (dC, dI)) (ci := 7) (v := .int v_14) (C := RX7) (T := TX7) (N := 16) hx hb hU inlX7 hown hK hP mo1 hfo_130 rfl 12 (by decide) (hU _ wd_264) (fun _ h9 => h9) rfl dX7_copyFrom_144 ?_
  refine tk_putP (D := (dC, dI)) (ci := 7) (v := .int v_14) (ty := .int) (C := RX7) (T := TX7) (N := 16) hx hb hU inlX7 tyX7 tyX7_ok nmX7 hown hK hP hD hS mo0 hfo_136 rfl 12 (by decide) (hU _ wd_264) (fun _ h9 => h9) rfl (by decide +kernel) rfl rfl (Nat.le_of_ble_eq_true rfl) dX7_copyFrom_147 (fun H locs hP hD hS => ?_)
  obtain ⟨f_141, ef_141⟩ : ∃ y : Nat → va_E, y = va_up f_129 o0 (.inr (7, [.ref a_19, .int v_3, .ref a_21, .ref a_22, .ref a_23, .ref a_24, .int v_8, .ref a_26, .ref a_27, .ref a_28, .ref a_29, .ref a_30, .int v_14, .ref a_32, .ref a_33, .ref a_34])) := ⟨_, rfl⟩
  have hP : va_P (dC, dI) vwCl (va_pl L f_141) H := by rw [ef_141]; exact hP
  have hD : va_D (fun q => q ∈ L) (va_pl L f_141) := by rw [ef_141]; exact hD
  have hG : GI (okc cI cL cZ cR cG cH L kd) kd L f_141 := by rw [ef_141]; exact hG.set o0 (mk_107 ko0 ⟨a_19, v_3, a_21, a_22, a_23, a_24, v_8, a_26, a_27, a_28, a_29, a_30, v_14, a_32, a_33, a_34, rfl, ⟨ma_19, ka_19⟩, (by constructor <;> omega), ⟨ma_21, ka_21⟩, ⟨ma_22, ka_22⟩, ⟨ma_23, ka_23⟩, ⟨ma_24, ka_24⟩, (by constructor <;> omega), ⟨ma_26, ka_26⟩, ⟨ma_27, ka_27⟩, ⟨ma_28, ka_28⟩, ⟨ma_29, ka_29⟩, ⟨ma_30, ka_30⟩, (by constructor <;> omega), ⟨ma_32, ka_32⟩, ⟨ma_33, ka_33⟩, ⟨ma_34, ka_34⟩⟩)
  have hfo_142 : f_141 o1 = .inr (7, [.ref a_2, .int v_3, .ref a_4, .ref a_5, .ref a_6, .ref a_7, .int v_8, .ref a_9, .ref a_10, .ref a_11, .ref a_12, .ref a_13, .int v_14, .ref a_15, .ref a_16, .ref a_17]) := by rw [ef_141, up_ne (kd_ne ko0 ko1 (by decide))]; exact hfo_130
  have hfo_143 : f_141 a_2 = .inl (cI, 26, .inl g_38) := by rw [ef_141, up_ne (kd_ne ko0 ka_2 (by decide))]; exact hfo_131
  have hfo_144 : f_141 a_4 = .inl (cI, 6, .inl g_53) := by rw [ef_141, up_ne (kd_ne ko0 ka_4 (by decide))]; exact hfo_132
  have hfo_145 : f_141 a_5 = .inl (cI, 81, .inl g_64) := by rw [ef_141, up_ne (kd_ne ko0 ka_5 (by decide))]; exact hfo_133
  have hfo_146 : f_141 a_6 = .inl (cI, 20, .inl g_76) := by rw [ef_141, up_ne (kd_ne ko0 ka_6 (by decide))]; exact hfo_134
  have hfo_147 : f_141 a_7 = .inl (cI, 20, .inl g_89) := by rw [ef_141, up_ne (kd_ne ko0 ka_7 (by decide))]; exact hfo_135
  have hfo_148 : f_141 a_11 = .inl (cI, 36, .inl g_112) := by rw [ef_141, up_ne (kd_ne ko0 ka_11 (by decide))]; exact hfo_137
  have hfo_149 : f_141 a_12 = .inl (cI, 36, .inl g_127) := by rw [ef_141, up_ne (kd_ne ko0 ka_12 (by decide))]; exact hfo_138
  have hfr0 : ∀ b, kd b ≠ 104 → kd b ≠ 105 → kd b ≠ 107 → kd b ≠ 109 → kd b ≠ 113 → kd b ≠ 541 → kd b ≠ 542 → kd b ≠ 543 → kd b ≠ 544 → kd b ≠ 545 → kd b ≠ 546 → kd b ≠ 547 → kd b ≠ 548 → kd b ≠ 549 → kd b ≠ 550 → kd b ≠ 551 → kd b ≠ 552 → kd b ≠ 555 → f_141 b = f b := fun b q104 q105 q107 q109 q113 q541 q542 q543 q544 q545 q546 q547 q548 q549 q550 q551 q552 q555 => (congrFun ef_141 b).trans ((up_ne (fun e9 => q107 (by rw [e9]; exact ko0))).trans (hfr0 b q104 q105 q107 q109 q113 q541 q542 q543 q544 q545 q546 q547 q548 q549 q550 q551 q552 q555))
  have hrr107_0 : ∀ b, kd b = 107 → fldR (f_141 b) 0 = fldR (f b) 0 := fun b kb => ((congrArg (fun x => fldR x 0) (congrFun ef_141 b)).trans (fr_up (by rw [hfo_136]; rfl) b)).trans (hrr107_0 b kb)
  have hrr107_3 : ∀ b, kd b = 107 → fldR (f_141 b) 3 = fldR (f b) 3 := fun b kb => ((congrArg (fun x => fldR x 3) (congrFun ef_141 b)).trans (fr_up (by rw [hfo_136]; rfl) b)).trans (hrr107_3 b kb)
  have hrr107_11 : ∀ b, kd b = 107 → fldR (f_141 b) 11 = fldR (f b) 11 := fun b kb => ((congrArg (fun x => fldR x 11) (congrFun ef_141 b)).trans (fr_up (by rw [hfo_136]; rfl) b)).trans (hrr107_11 b kb)
  have hfo_150 : f_141 o0 = .inr (7, [.ref a_19, .int v_3, .ref a_21, .ref a_22, .ref a_23, .ref a_24, .int v_8, .ref a_26, .ref a_27, .ref a_28, .ref a_29, .ref a_30, .int v_14, .ref a_32, .ref a_33, .ref a_34]) := by rw [ef_141]; exact up_self
  refine lv_iconst (v := 0) hx hb dX7_copyFrom_150 (by decide) ?_
  refine lv_istore_n (lv' := [(2, .int 0), (0, .ref o0), (1, .ref o1)]) hx hb dX7_copyFrom_151 rfl hl (by decide) rfl (fun ls hl => ?_)
  have hloop_190 : ∀ (n : Nat), ∀ (y_191 : Int32), (0 ≤ y_191.toInt ∧ y_191.toInt ≤ 8) → ∀ (f_193 : Nat → va_E), GI (okc cI cL cZ cR cG cH L kd) kd L f_193 → ∀ (H : Heap) (locs : List Loc), va_P (dC, dI) vwCl (va_pl L f_193) H → va_S (fun q => q ∈ L) s.heap H locs → va_D (fun q => q ∈ L) (va_pl L f_193) → (∀ b, kd b ≠ 104 → kd b ≠ 105 → kd b ≠ 107 → kd b ≠ 109 → kd b ≠ 113 → kd b ≠ 541 → kd b ≠ 542 → kd b ≠ 543 → kd b ≠ 544 → kd b ≠ 545 → kd b ≠ 546 → kd b ≠ 547 → kd b ≠ 548 → kd b ≠ 549 → kd b ≠ 550 → kd b ≠ 551 → kd b ≠ 552 → kd b ≠ 555 → f_193 b = f b) → (∀ b, kd b = 107 → fldR (f_193 b) 0 = fldR (f b) 0) → (∀ b, kd b = 107 → fldR (f_193 b) 3 = fldR (f b) 3) → (∀ b, kd b = 107 → fldR (f_193 b) 11 = fldR (f b) 11) → (f_193 o1 = .inr (7, [.ref a_2, .int v_3, .ref a_4, .ref a_5, .ref a_6, .ref a_7, .int v_8, .ref a_9, .ref a_10, .ref a_11, .ref a_12, .ref a_13, .int v_14, .ref a_15, .ref a_16, .ref a_17])) → (f_193 a_2 = .inl (cI, 26, .inl g_38)) → (f_193 a_4 = .inl (cI, 6, .inl g_53)) → (f_193 a_5 = .inl (cI, 81, .inl g_64)) → (f_193 a_6 = .inl (cI, 20, .inl g_76)) → (f_193 a_7 = .inl (cI, 20, .inl g_89)) → (f_193 a_11 = .inl (cI, 36, .inl g_112)) → (f_193 a_12 = .inl (cI, 36, .inl g_127)) → (f_193 o0 = .inr (7, [.ref a_19, .int v_3, .ref a_21, .ref a_22, .ref a_23, .ref a_24, .int v_8, .ref a_26, .ref a_27, .ref a_28, .ref a_29, .ref a_30, .int v_14, .ref a_32, .ref a_33, .ref a_34])) → 8 - y_191.toInt < (n : Int) → ∀ (ls : Array Slot), lv_has ls 3 [(2, .int y_191), (0, .ref o0), (1, .ref o1)] → W p l e (headSpec (wU yX7_copyFrom cX7_copyFrom 3 none) { frames := 3, cells := 0, slots := 0, locals := 82 }).room s m [.ref o0, .ref o1].toArray below meth c H locs 0 0 (MQ below (va_Qv (fun (f9 : Nat → va_E) => GI (okc cI cL cZ cR cG cH L kd) kd L f9 ∧ (∀ b, kd b ≠ 104 → kd b ≠ 105 → kd b ≠ 107 → kd b ≠ 109 → kd b ≠ 113 → kd b ≠ 541 → kd b ≠ 542 → kd b ≠ 543 → kd b ≠ 544 → kd b ≠ 545 → kd b ≠ 546 → kd b ≠ 547 → kd b ≠ 548 → kd b ≠ 549 → kd b ≠ 550 → kd b ≠ 551 → kd b ≠ 552 → kd b ≠ 555 → f9 b = f b) ∧ (∀ b, kd b = 107 → fldR (f9 b) 0 = fldR (f b) 0) ∧ (∀ b, kd b = 107 → fldR (f9 b) 3 = fldR (f b) 3) ∧ (∀ b, kd b = 107 → fldR (f9 b) 11 = fldR (f b) 11)) (qP (dC, dI) cI cL cZ cR cG cH L) (fun q => q ∈ L)) [.ref o0, .ref o1].toArray s 0 0 (fun q => q ∈ L)) (F0 m 152 ls []) := by
    intro n
    induction n with
    | zero => intro y_191 by_191 f_193 hG H locs hP hS hD hfr0 hrr107_0 hrr107_3 hrr107_11 hfo_194 hfo_195 hfo_196 hfo_197 hfo_198 hfo_199 hfo_200 hfo_201 hfo_202 hmuhloop_190 ls hl; exfalso; omega
    | succ n ih_hloop_190 =>
      intro y_191 by_191 f_193 hG H locs hP hS hD hfr0 hrr107_0 hrr107_3 hrr107_11 hfo_194 hfo_195 hfo_196 hfo_197 hfo_198 hfo_199 hfo_200 hfo_201 hfo_202 hmuhloop_190 ls hl
      refine lv_iload_n hx hb dX7_copyFrom_152 rfl (lv_at hl 0 rfl) ?_
      refine lv_aload_n hx hb dX7_copyFrom_153 rfl (lv_at hl 1 rfl) ?_
      refine tk_getP (D := (dC, dI)) (ci := 7) (v := .int v_14) (C := RX7) (T := TX7) (N := 16) hx hb hU inlX7 hown hK hP mo0 hfo_202 rfl 12 (by decide) (hU _ wd_264) (fun _ h9 => h9) rfl dX7_copyFrom_154 ?_
      refine lv_icmp_ge (tgt := 181) hx hb dX7_copyFrom_157 (by decide) (fun c_203 => ?_) (fun c_203 => ?_)
      · skip
        rw [Int32.le_iff_toInt_le] at c_203
        refine lv_aload_n hx hb dX7_copyFrom_181 rfl (lv_at hl 1 rfl) ?_
        refine tk_getP (D := (dC, dI)) (ci := 7) (v := .ref a_32) (C := RX7) (T := TX7) (N := 16) hx hb hU inlX7 hown hK hP mo0 hfo_202 rfl 13 (by decide) (hU _ wd_86) (fun _ h9 => h9) rfl dX7_copyFrom_182 ?_
        refine lv_aload_n hx hb dX7_copyFrom_185 rfl (lv_at hl 2 rfl) ?_
        refine tk_getP (D := (dC, dI)) (ci := 7) (v := .ref a_15) (C := RX7) (T := TX7) (N := 16) hx hb hU inlX7 hown hK hP mo1 hfo_194 rfl 13 (by decide) (hU _ wd_86) (fun _ h9 => h9) rfl dX7_copyFrom_186 ?_
        obtain ⟨a_205, a_206, v_207, hfo_204, ⟨ma_205, ka_205⟩, ⟨ma_206, ka_206⟩, bv_207⟩ := un_109 (hG _ ma_32) ka_32
        refine tk_VvP (As := [.ref a_15]) (rest := []) (n := 1) hx hb hml hown hU hN hZ (s_X9_copyFrom_k109_k9 l (dC, dI) cI cL cZ cR cG cH Z kd L f_193 hG a_32 ma_32 ka_32 a_15 ma_15 ka_15) wd_544 wd_545 wd_546 wd_85 wd_547 (by decide +kernel) ⟨Nat.le_of_ble_eq_true rfl, Nat.le_of_ble_eq_true rfl⟩ hK hP hD hS ma_32 hfo_204 9 rfl rfl rfl hl.1 rfl (Nat.le_of_ble_eq_true rfl) dX7_copyFrom_189 ⟨Nat.le_of_ble_eq_true rfl, Nat.le_of_ble_eq_true rfl⟩ (fun f_209 H locs hw hP hD hS => ?_)
        obtain ⟨hG, hkc_210⟩ := hw
        have hfo_212 : f_209 o1 = .inr (7, [.ref a_2, .int v_3, .ref a_4, .ref a_5, .ref a_6, .ref a_7, .int v_8, .ref a_9, .ref a_10, .ref a_11, .ref a_12, .ref a_13, .int v_14, .ref a_15, .ref a_16, .ref a_17]) := by rw [hkc_210 o1 (by rw [ko1]; decide) (by rw [ko1]; decide) (by rw [ko1]; decide)]; exact hfo_194
        have hfo_213 : f_209 a_2 = .inl (cI, 26, .inl g_38) := by rw [hkc_210 a_2 (by rw [ka_2]; decide) (by rw [ka_2]; decide) (by rw [ka_2]; decide)]; exact hfo_195
        have hfo_214 : f_209 a_4 = .inl (cI, 6, .inl g_53) := by rw [hkc_210 a_4 (by rw [ka_4]; decide) (by rw [ka_4]; decide) (by rw [ka_4]; decide)]; exact hfo_196
        have hfo_215 : f_209 a_5 = .inl (cI, 81, .inl g_64) := by rw [hkc_210 a_5 (by rw [ka_5]; decide) (by rw [ka_5]; decide) (by rw [ka_5]; decide)]; exact hfo_197
        have hfo_216 : f_209 a_6 = .inl (cI, 20, .inl g_76) := by rw [hkc_210 a_6 (by rw [ka_6]; decide) (by rw [ka_6]; decide) (by rw [ka_6]; decide)]; exact hfo_198
        have hfo_217 : f_209 a_7 = .inl (cI, 20, .inl g_89) := by rw [hkc_210 a_7 (by rw [ka_7]; decide) (by rw [ka_7]; decide) (by rw [ka_7]; decide)]; exact hfo_199
        have hfo_218 : f_209 a_11 = .inl (cI, 36, .inl g_112) := by rw [hkc_210 a_11 (by rw [ka_11]; decide) (by rw [ka_11]; decide) (by rw [ka_11]; decide)]; exact hfo_200
        have hfo_219 : f_209 a_12 = .inl (cI, 36, .inl g_127) := by rw [hkc_210 a_12 (by rw [ka_12]; decide) (by rw [ka_12]; decide) (by rw [ka_12]; decide)]; exact hfo_201
        have hfo_220 : f_209 o0 = .inr (7, [.ref a_19, .int v_3, .ref a_21, .ref a_22, .ref a_23, .ref a_24, .int v_8, .ref a_26, .ref a_27, .ref a_28, .ref a_29, .ref a_30, .int v_14, .ref a_32, .ref a_33, .ref a_34]) := by rw [hkc_210 o0 (by rw [ko0]; decide) (by rw [ko0]; decide) (by rw [ko0]; decide)]; exact hfo_202
        have hfr0 : ∀ b, kd b ≠ 104 → kd b ≠ 105 → kd b ≠ 107 → kd b ≠ 109 → kd b ≠ 113 → kd b ≠ 541 → kd b ≠ 542 → kd b ≠ 543 → kd b ≠ 544 → kd b ≠ 545 → kd b ≠ 546 → kd b ≠ 547 → kd b ≠ 548 → kd b ≠ 549 → kd b ≠ 550 → kd b ≠ 551 → kd b ≠ 552 → kd b ≠ 555 → f_209 b = f b := fun b q104 q105 q107 q109 q113 q541 q542 q543 q544 q545 q546 q547 q548 q549 q550 q551 q552 q555 => (hkc_210 b q109 q545 q546).trans (hfr0 b q104 q105 q107 q109 q113 q541 q542 q543 q544 q545 q546 q547 q548 q549 q550 q551 q552 q555)
        have hrr107_0 : ∀ b, kd b = 107 → fldR (f_209 b) 0 = fldR (f b) 0 := fun b kb => (congrArg (fun x => fldR x 0) (hkc_210 b (by rw [kb]; decide) (by rw [kb]; decide) (by rw [kb]; decide))).trans (hrr107_0 b kb)
        have hrr107_3 : ∀ b, kd b = 107 → fldR (f_209 b) 3 = fldR (f b) 3 := fun b kb => (congrArg (fun x => fldR x 3) (hkc_210 b (by rw [kb]; decide) (by rw [kb]; decide) (by rw [kb]; decide))).trans (hrr107_3 b kb)
        have hrr107_11 : ∀ b, kd b = 107 → fldR (f_209 b) 11 = fldR (f b) 11 := fun b kb => (congrArg (fun x => fldR x 11) (hkc_210 b (by rw [kb]; decide) (by rw [kb]; decide) (by rw [kb]; decide))).trans (hrr107_11 b kb)
        refine lv_aload_n hx hb dX7_copyFrom_192 rfl (lv_at hl 1 rfl) ?_
        refine tk_getP (D := (dC, dI)) (ci := 7) (v := .ref a_33) (C := RX7) (T := TX7) (N := 16) hx hb hU inlX7 hown hK hP mo0 hfo_220 rfl 14 (by decide) (hU _ wd_87) (fun _ h9 => h9) rfl dX7_copyFrom_193 ?_
        refine lv_aload_n hx hb dX7_copyFrom_196 rfl (lv_at hl 2 rfl) ?_
        refine tk_getP (D := (dC, dI)) (ci := 7) (v := .ref a_16) (C := RX7) (T := TX7) (N := 16) hx hb hU inlX7 hown hK hP mo1 hfo_212 rfl 14 (by decide) (hU _ wd_87) (fun _ h9 => h9) rfl dX7_copyFrom_197 ?_
        obtain ⟨a_222, a_223, v_224, hfo_221, ⟨ma_222, ka_222⟩, ⟨ma_223, ka_223⟩, bv_224⟩ := un_113 (hG _ ma_33) ka_33
        refine tk_VvP (As := [.ref a_16]) (rest := []) (n := 1) hx hb hml hown hU hN hZ (s_X9_copyFrom_k113_k13 l (dC, dI) cI cL cZ cR cG cH Z kd L f_209 hG a_33 ma_33 ka_33 a_16 ma_16 ka_16) wd_544 wd_545 wd_546 wd_85 wd_547 (by decide +kernel) ⟨Nat.le_of_ble_eq_true rfl, Nat.le_of_ble_eq_true rfl⟩ hK hP hD hS ma_33 hfo_221 9 rfl rfl rfl hl.1 rfl (Nat.le_of_ble_eq_true rfl) dX7_copyFrom_200 ⟨Nat.le_of_ble_eq_true rfl, Nat.le_of_ble_eq_true rfl⟩ (fun f_226 H locs hw hP hD hS => ?_)
        obtain ⟨hG, hkc_227⟩ := hw
        have hfo_229 : f_226 o1 = .inr (7, [.ref a_2, .int v_3, .ref a_4, .ref a_5, .ref a_6, .ref a_7, .int v_8, .ref a_9, .ref a_10, .ref a_11, .ref a_12, .ref a_13, .int v_14, .ref a_15, .ref a_16, .ref a_17]) := by rw [hkc_227 o1 (by rw [ko1]; decide) (by rw [ko1]; decide) (by rw [ko1]; decide)]; exact hfo_212
        have hfo_230 : f_226 a_2 = .inl (cI, 26, .inl g_38) := by rw [hkc_227 a_2 (by rw [ka_2]; decide) (by rw [ka_2]; decide) (by rw [ka_2]; decide)]; exact hfo_213
        have hfo_231 : f_226 a_4 = .inl (cI, 6, .inl g_53) := by rw [hkc_227 a_4 (by rw [ka_4]; decide) (by rw [ka_4]; decide) (by rw [ka_4]; decide)]; exact hfo_214
        have hfo_232 : f_226 a_5 = .inl (cI, 81, .inl g_64) := by rw [hkc_227 a_5 (by rw [ka_5]; decide) (by rw [ka_5]; decide) (by rw [ka_5]; decide)]; exact hfo_215
        have hfo_233 : f_226 a_6 = .inl (cI, 20, .inl g_76) := by rw [hkc_227 a_6 (by rw [ka_6]; decide) (by rw [ka_6]; decide) (by rw [ka_6]; decide)]; exact hfo_216
        have hfo_234 : f_226 a_7 = .inl (cI, 20, .inl g_89) := by rw [hkc_227 a_7 (by rw [ka_7]; decide) (by rw [ka_7]; decide) (by rw [ka_7]; decide)]; exact hfo_217
        have hfo_235 : f_226 a_11 = .inl (cI, 36, .inl g_112) := by rw [hkc_227 a_11 (by rw [ka_11]; decide) (by rw [ka_11]; decide) (by rw [ka_11]; decide)]; exact hfo_218
        have hfo_236 : f_226 a_12 = .inl (cI, 36, .inl g_127) := by rw [hkc_227 a_12 (by rw [ka_12]; decide) (by rw [ka_12]; decide) (by rw [ka_12]; decide)]; exact hfo_219
        have hfo_237 : f_226 o0 = .inr (7, [.ref a_19, .int v_3, .ref a_21, .ref a_22, .ref a_23, .ref a_24, .int v_8, .ref a_26, .ref a_27, .ref a_28, .ref a_29, .ref a_30, .int v_14, .ref a_32, .ref a_33, .ref a_34]) := by rw [hkc_227 o0 (by rw [ko0]; decide) (by rw [ko0]; decide) (by rw [ko0]; decide)]; exact hfo_220
        have hfr0 : ∀ b, kd b ≠ 104 → kd b ≠ 105 → kd b ≠ 107 → kd b ≠ 109 → kd b ≠ 113 → kd b ≠ 541 → kd b ≠ 542 → kd b ≠ 543 → kd b ≠ 544 → kd b ≠ 545 → kd b ≠ 546 → kd b ≠ 547 → kd b ≠ 548 → kd b ≠ 549 → kd b ≠ 550 → kd b ≠ 551 → kd b ≠ 552 → kd b ≠ 555 → f_226 b = f b := fun b q104 q105 q107 q109 q113 q541 q542 q543 q544 q545 q546 q547 q548 q549 q550 q551 q552 q555 => (hkc_227 b q113 q547 q548).trans (hfr0 b q104 q105 q107 q109 q113 q541 q542 q543 q544 q545 q546 q547 q548 q549 q550 q551 q552 q555)
        have hrr107_0 : ∀ b, kd b = 107 → fldR (f_226 b) 0 = fldR (f b) 0 := fun b kb => (congrArg (fun x => fldR x 0) (hkc_227 b (by rw [kb]; decide) (by rw [kb]; decide) (by rw [kb]; decide))).trans (hrr107_0 b kb)
        have hrr107_3 : ∀ b, kd b = 107 → fldR (f_226 b) 3 = fldR (f b) 3 := fun b kb => (congrArg (fun x => fldR x 3) (hkc_227 b (by rw [kb]; decide) (by rw [kb]; decide) (by rw [kb]; decide))).trans (hrr107_3 b kb)
        have hrr107_11 : ∀ b, kd b = 107 → fldR (f_226 b) 11 = fldR (f b) 11 := fun b kb => (congrArg (fun x => fldR x 11) (hkc_227 b (by rw [kb]; decide) (by rw [kb]; decide) (by rw [kb]; decide))).trans (hrr107_11 b kb)
        exact W.vret hx hb hr (fun t ht hW => ⟨⟨f_226, rfl, ⟨hG, hfr0, hrr107_0, hrr107_3, hrr107_11⟩, by rw [ht]; exact hP, va_K.moved hW.alike hK, pl_in hD⟩, hS.F ht⟩) hS.2.2 dX7_copyFrom_203
      · skip
        rw [Int32.le_iff_toInt_le] at c_203
        refine lv_aload_n hx hb dX7_copyFrom_160 rfl (lv_at hl 1 rfl) ?_
        refine tk_getP (D := (dC, dI)) (ci := 7) (v := .ref a_30) (C := RX7) (T := TX7) (N := 16) hx hb hU inlX7 hown hK hP mo0 hfo_202 rfl 11 (by decide) (hU _ wd_82) (fun _ h9 => h9) rfl dX7_copyFrom_161 ?_
        refine lv_iload_n hx hb dX7_copyFrom_164 rfl (lv_at hl 0 rfl) ?_
        obtain ⟨g_239, hfo_238, hbg_239⟩ := un_556 (hG _ ma_30) ka_30
        obtain ⟨a_240, hga_240, ma_240, ka_240⟩ := hbg_239 (Int32.toNatClampNeg y_191) (in_lt (vp_in_iff.mpr (by constructor <;> omega)))
        refine tk_aldP hx hb hK hP 3 ma_30 hfo_238 rfl (vp_in_iff.mpr (by constructor <;> omega)) hga_240 dX7_copyFrom_165 ?_
        refine lv_aload_n hx hb dX7_copyFrom_166 rfl (lv_at hl 2 rfl) ?_
        refine tk_getP (D := (dC, dI)) (ci := 7) (v := .ref a_13) (C := RX7) (T := TX7) (N := 16) hx hb hU inlX7 hown hK hP mo1 hfo_194 rfl 11 (by decide) (hU _ wd_82) (fun _ h9 => h9) rfl dX7_copyFrom_167 ?_
        refine lv_iload_n hx hb dX7_copyFrom_170 rfl (lv_at hl 0 rfl) ?_
        obtain ⟨g_242, hfo_241, hbg_242⟩ := un_515 (hG _ ma_13) ka_13
        obtain ⟨a_243, hga_243, ma_243, ka_243⟩ := hbg_242 (Int32.toNatClampNeg y_191) (in_lt (vp_in_iff.mpr (by constructor <;> omega)))
        refine tk_aldP hx hb hK hP 3 ma_13 hfo_241 rfl (vp_in_iff.mpr (by constructor <;> omega)) hga_243 dX7_copyFrom_171 ?_
        obtain ⟨v_245, v_246, v_247, v_248, a_249, a_250, a_251, a_252, v_253, v_254, v_255, hfo_244, bv_245, bv_246, bv_247, bv_248, ⟨ma_249, ka_249⟩, ⟨ma_250, ka_250⟩, ⟨ma_251, ka_251⟩, ⟨ma_252, ka_252⟩⟩ := un_104 (hG _ ma_240) ka_240
        have bv_253 : ((-2147483648) ≤ v_253.toInt ∧ v_253.toInt ≤ 2147483647) := ⟨i32_lo _, i32_hi _⟩
        have bv_254 : ((-2147483648) ≤ v_254.toInt ∧ v_254.toInt ≤ 2147483647) := ⟨i32_lo _, i32_hi _⟩
        have bv_255 : ((-2147483648) ≤ v_255.toInt ∧ v_255.toInt ≤ 2147483647) := ⟨i32_lo _, i32_hi _⟩
        refine tk_VvP (As := [.ref a_243]) (rest := []) (n := 1) hx hb hml hown hU hN hZ (s_X4_copyFrom_k104_k4 l (dC, dI) cI cL cZ cR cG cH Z kd L f_193 hG a_240 ma_240 ka_240 a_243 ma_243 ka_243) wd_535 wd_536 wd_537 wd_90 wd_538 (by decide +kernel) ⟨Nat.le_of_ble_eq_true rfl, Nat.le_of_ble_eq_true rfl⟩ hK hP hD hS ma_240 hfo_244 4 rfl rfl rfl hl.1 rfl (Nat.le_of_ble_eq_true rfl) dX7_copyFrom_172 ⟨Nat.le_of_ble_eq_true rfl, Nat.le_of_ble_eq_true rfl⟩ (fun f_257 H locs hw hP hD hS => ?_)
        obtain ⟨hG, hkc_258⟩ := hw
        have hfo_260 : f_257 o1 = .inr (7, [.ref a_2, .int v_3, .ref a_4, .ref a_5, .ref a_6, .ref a_7, .int v_8, .ref a_9, .ref a_10, .ref a_11, .ref a_12, .ref a_13, .int v_14, .ref a_15, .ref a_16, .ref a_17]) := by rw [hkc_258 o1 (by rw [ko1]; decide) (by rw [ko1]; decide) (by rw [ko1]; decide) (by rw [ko1]; decide) (by rw [ko1]; decide) (by rw [ko1]; decide)]; exact hfo_194
        have hfo_261 : f_257 a_2 = .inl (cI, 26, .inl g_38) := by rw [hkc_258 a_2 (by rw [ka_2]; decide) (by rw [ka_2]; decide) (by rw [ka_2]; decide) (by rw [ka_2]; decide) (by rw [ka_2]; decide) (by rw [ka_2]; decide)]; exact hfo_195
        have hfo_262 : f_257 a_4 = .inl (cI, 6, .inl g_53) := by rw [hkc_258 a_4 (by rw [ka_4]; decide) (by rw [ka_4]; decide) (by rw [ka_4]; decide) (by rw [ka_4]; decide) (by rw [ka_4]; decide) (by rw [ka_4]; decide)]; exact hfo_196
        have hfo_263 : f_257 a_5 = .inl (cI, 81, .inl g_64) := by rw [hkc_258 a_5 (by rw [ka_5]; decide) (by rw [ka_5]; decide) (by rw [ka_5]; decide) (by rw [ka_5]; decide) (by rw [ka_5]; decide) (by rw [ka_5]; decide)]; exact hfo_197
        have hfo_264 : f_257 a_6 = .inl (cI, 20, .inl g_76) := by rw [hkc_258 a_6 (by rw [ka_6]; decide) (by rw [ka_6]; decide) (by rw [ka_6]; decide) (by rw [ka_6]; decide) (by rw [ka_6]; decide) (by rw [ka_6]; decide)]; exact hfo_198
        have hfo_265 : f_257 a_7 = .inl (cI, 20, .inl g_89) := by rw [hkc_258 a_7 (by rw [ka_7]; decide) (by rw [ka_7]; decide) (by rw [ka_7]; decide) (by rw [ka_7]; decide) (by rw [ka_7]; decide) (by rw [ka_7]; decide)]; exact hfo_199
        have hfo_266 : f_257 a_11 = .inl (cI, 36, .inl g_112) := by rw [hkc_258 a_11 (by rw [ka_11]; decide) (by rw [ka_11]; decide) (by rw [ka_11]; decide) (by rw [ka_11]; decide) (by rw [ka_11]; decide) (by rw [ka_11]; decide)]; exact hfo_200
        have hfo_267 : f_257 a_12 = .inl (cI, 36, .inl g_127) := by rw [hkc_258 a_12 (by rw [ka_12]; decide) (by rw [ka_12]; decide) (by rw [ka_12]; decide) (by rw [ka_12]; decide) (by rw [ka_12]; decide) (by rw [ka_12]; decide)]; exact hfo_201
        have hfo_268 : f_257 o0 = .inr (7, [.ref a_19, .int v_3, .ref a_21, .ref a_22, .ref a_23, .ref a_24, .int v_8, .ref a_26, .ref a_27, .ref a_28, .ref a_29, .ref a_30, .int v_14, .ref a_32, .ref a_33, .ref a_34]) := by rw [hkc_258 o0 (by rw [ko0]; decide) (by rw [ko0]; decide) (by rw [ko0]; decide) (by rw [ko0]; decide) (by rw [ko0]; decide) (by rw [ko0]; decide)]; exact hfo_202
        have hfo_269 : f_257 a_30 = .inl (cR, 8, .inr (.inr (.inr (.inr g_239)))) := by rw [hkc_258 a_30 (by rw [ka_30]; decide) (by rw [ka_30]; decide) (by rw [ka_30]; decide) (by rw [ka_30]; decide) (by rw [ka_30]; decide) (by rw [ka_30]; decide)]; exact hfo_238
        have hfo_270 : f_257 a_13 = .inl (cR, 8, .inr (.inr (.inr (.inr g_242)))) := by rw [hkc_258 a_13 (by rw [ka_13]; decide) (by rw [ka_13]; decide) (by rw [ka_13]; decide) (by rw [ka_13]; decide) (by rw [ka_13]; decide) (by rw [ka_13]; decide)]; exact hfo_241
        have hfr0 : ∀ b, kd b ≠ 104 → kd b ≠ 105 → kd b ≠ 107 → kd b ≠ 109 → kd b ≠ 113 → kd b ≠ 541 → kd b ≠ 542 → kd b ≠ 543 → kd b ≠ 544 → kd b ≠ 545 → kd b ≠ 546 → kd b ≠ 547 → kd b ≠ 548 → kd b ≠ 549 → kd b ≠ 550 → kd b ≠ 551 → kd b ≠ 552 → kd b ≠ 555 → f_257 b = f b := fun b q104 q105 q107 q109 q113 q541 q542 q543 q544 q545 q546 q547 q548 q549 q550 q551 q552 q555 => (hkc_258 b q104 q105 q541 q542 q543 q544).trans (hfr0 b q104 q105 q107 q109 q113 q541 q542 q543 q544 q545 q546 q547 q548 q549 q550 q551 q552 q555)
        have hrr107_0 : ∀ b, kd b = 107 → fldR (f_257 b) 0 = fldR (f b) 0 := fun b kb => (congrArg (fun x => fldR x 0) (hkc_258 b (by rw [kb]; decide) (by rw [kb]; decide) (by rw [kb]; decide) (by rw [kb]; decide) (by rw [kb]; decide) (by rw [kb]; decide))).trans (hrr107_0 b kb)
        have hrr107_3 : ∀ b, kd b = 107 → fldR (f_257 b) 3 = fldR (f b) 3 := fun b kb => (congrArg (fun x => fldR x 3) (hkc_258 b (by rw [kb]; decide) (by rw [kb]; decide) (by rw [kb]; decide) (by rw [kb]; decide) (by rw [kb]; decide) (by rw [kb]; decide))).trans (hrr107_3 b kb)
        have hrr107_11 : ∀ b, kd b = 107 → fldR (f_257 b) 11 = fldR (f b) 11 := fun b kb => (congrArg (fun x => fldR x 11) (hkc_258 b (by rw [kb]; decide) (by rw [kb]; decide) (by rw [kb]; decide) (by rw [kb]; decide) (by rw [kb]; decide) (by rw [kb]; decide))).trans (hrr107_11 b kb)
        obtain ⟨x_271, ex_271⟩ : ∃ y : Int32, y_191 + 1 = y := ⟨_, rfl⟩
        have hx_271 : x_271.toInt = y_191.toInt + 1 := by rw [← ex_271, ad_I (by rw [ti_1]; omega) (by rw [ti_1]; omega), ti_1]
        have bx_271 : (1 ≤ x_271.toInt ∧ x_271.toInt ≤ 8) := by constructor <;> omega
        refine lv_iinc (v := x_271) (lv' := [(2, .int x_271), (0, .ref o0), (1, .ref o1)]) hx hb dX7_copyFrom_175 hl (k := 0) rfl ex_271 (by decide) rfl (fun ls hl => ?_)
        refine lv_goto (tgt := 152) hx hb dX7_copyFrom_178 (by decide) ?_
        exact ih_hloop_190 x_271 (by constructor <;> omega) f_257 hG _ _ hP hS hD hfr0 hrr107_0 hrr107_3 hrr107_11 hfo_260 hfo_261 hfo_262 hfo_263 hfo_264 hfo_265 hfo_266 hfo_267 hfo_268 (by omega) ls (lv_sub hl [0, 1, 2] rfl)
  exact hloop_190 9 0 (by decide) f_141 hG _ _ hP hS hD hfr0 hrr107_0 hrr107_3 hrr107_11 hfo_142 hfo_143 hfo_144 hfo_145 hfo_146 hfo_147 hfo_148 hfo_149 hfo_150 (by (try rw [ti_0]) <;> omega) ls hl
