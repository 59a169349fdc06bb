set_option maxHeartbeats 8000000 in
set_option maxRecDepth 100000 in
theorem s_X7_copyFrom_k7_k107_t (l : Launch) (D : va_G) (cI cL cZ cR cG cH : ClassId) (Z : zT) (kd : Nat → Nat) (L : List Nat) (f : Nat → va_E) (hG : GI (okc cI cL cZ cR cG cH L kd) kd L f) (o0 : Nat) (mo0 : o0 ∈ L) (ko0 : kd o0 = 7) (o1 : Nat) (mo1 : o1 ∈ L) (ko1 : kd o1 = 107) (hxtr0 : trel kd 107 549 551 556 104 f o1) : mPV l D cI cL cZ cR cG cH Z yX7_copyFrom cX7_copyFrom 3 none 3 82 [.ref o0, .ref o1] L f (fun (f9 : Nat → va_E) => GI (okc cI cL cZ cR cG cH L kd) kd L f9 ∧ (∀ b, kd b ≠ 4 → kd b ≠ 5 → kd b ≠ 7 → kd b ≠ 9 → kd b ≠ 13 → kd b ≠ 500 → kd b ≠ 501 → kd b ≠ 502 → kd b ≠ 503 → kd b ≠ 504 → kd b ≠ 505 → kd b ≠ 506 → kd b ≠ 507 → kd b ≠ 508 → kd b ≠ 509 → kd b ≠ 510 → kd b ≠ 511 → kd b ≠ 514 → f9 b = f b) ∧ (∀ b, kd b = 7 → fldR (f9 b) 0 = fldR (f b) 0) ∧ (∀ b, kd b = 7 → fldR (f9 b) 3 = fldR (f b) 3) ∧ (∀ b, kd b = 7 → fldR (f9 b) 11 = fldR (f b) 11) ∧ (∀ w9, fldI (f9 o1) 12 = some w9 → fldI (f9 o0) 12 = some w9) ∧ (trel kd 107 549 551 556 104 f9 o1) ∧ (trel kd 7 508 510 515 4 f9 o0)) := by
  obtain ⟨dC, dI⟩ := D
  refine Met.ofW (cc := cX7_copyFrom) (maxL := 3) (ret := none) (by decide) rfl ?_
  intro p e s m args below meth c s₁ B hml hv
  obtain ⟨rfl, hP, hK, hD0, hN, hZ⟩ := hv
  have hx := B.exec
  have hb := B.bytes
  have hr := B.returns
  have hU : ∀ w ∈ wsU, w.before _ s = true := fun w h => atoms_spec (ws := wU yX7_copyFrom cX7_copyFrom 3 none) B.pre w (List.mem_cons_of_mem _ h)
  have hown : s.vm.findClass RX7 = some m.cls := findClass_of_methodNamed B.named
  have hlocks := B.notSynchronized
  have hD := pl_in hD0
  have hS : va_S (fun q => q ∈ L) s.heap s.heap [] := va_S.rf
  have hl := lv_entry ([.ref o0, .ref o1]) (n := 3) (Nat.le_of_ble_eq_true rfl)
  rw [lg_entry_eq]
  generalize (lg_sl ([.ref o0, .ref o1]) ++ List.replicate (3 - (lg_sl ([.ref o0, .ref o1])).length) Slot.unset).toArray = ls at hl ⊢
  have hl : lv_has ls 3 [(0, .ref o0), (1, .ref o1)] := hl
  have hfr0 : ∀ b, kd b ≠ 4 → kd b ≠ 5 → kd b ≠ 7 → kd b ≠ 9 → kd b ≠ 13 → kd b ≠ 500 → kd b ≠ 501 → kd b ≠ 502 → kd b ≠ 503 → kd b ≠ 504 → kd b ≠ 505 → kd b ≠ 506 → kd b ≠ 507 → kd b ≠ 508 → kd b ≠ 509 → kd b ≠ 510 → kd b ≠ 511 → kd b ≠ 514 → f b = f b := fun _ _ _ _ _ _ _ _ _ _ _ _ _ _ _ _ _ _ _ => rfl
  have hrr7_0 : ∀ b, kd b = 7 → fldR (f b) 0 = fldR (f b) 0 := fun _ _ => rfl
  have hrr7_3 : ∀ b, kd b = 7 → fldR (f b) 3 = fldR (f b) 3 := fun _ _ => rfl
  have hrr7_11 : ∀ b, kd b = 7 → fldR (f b) 11 = fldR (f b) 11 := fun _ _ => rfl
  have hT0 := hxtr0
  have hTq := hT0
  obtain ⟨a_2, v_3, a_4, a_5, a_6, a_7, v_8, a_9, a_10, a_11, a_12, a_13, v_14, a_15, a_16, a_17, hfo_1, ⟨ma_2, ka_2⟩, bv_3, ⟨ma_4, ka_4⟩, ⟨ma_5, ka_5⟩, ⟨ma_6, ka_6⟩, ⟨ma_7, ka_7⟩, bv_8, ⟨ma_9, ka_9⟩, ⟨ma_10, ka_10⟩, ⟨ma_11, ka_11⟩, ⟨ma_12, ka_12⟩, ⟨ma_13, ka_13⟩, bv_14, ⟨ma_15, ka_15⟩, ⟨ma_16, ka_16⟩, ⟨ma_17, ka_17⟩⟩ := un_107 (hG _ mo1) ko1
  obtain ⟨g_19, hfo_18, hbg_19⟩ := un_549 (hG _ ma_2) ka_2
  obtain ⟨g_21, hfo_20, hbg_21⟩ := un_551 (hG _ ma_5) ka_5
  obtain ⟨g_23, hfo_22, hbg_23⟩ := un_556 (hG _ ma_13) ka_13
  obtain ⟨tqn, tqp, tqc, tqs, tqa, tqr, tqg, tqh, tqq, ⟨-, -, -, -⟩, ⟨tqt1, tqt2, tqt3, tqt4, tqt5, tqt6⟩, ⟨tqw1, tqw2, tqw3⟩, tq4, tq5, tq6, tq7⟩ := hTq
  rw [hfo_1] at tqt1 tqt2 tqt3 tqt4 tqt5 tqt6
  obtain rfl := Option.some.inj tqt1
  obtain rfl := Option.some.inj tqt2
  obtain rfl := Option.some.inj tqt3
  obtain rfl := Option.some.inj tqt4
  obtain rfl := Option.some.inj tqt5
  obtain rfl := Option.some.inj tqt6
  rw [hfo_18] at tqw1
  obtain rfl := Option.some.inj tqw1
  rw [hfo_20] at tqw2
  obtain rfl := Option.some.inj tqw2
  rw [hfo_22] at tqw3
  obtain rfl := Option.some.inj tqw3
  obtain ⟨a_25, v_26, a_27, a_28, a_29, a_30, v_31, a_32, a_33, a_34, a_35, a_36, v_37, a_38, a_39, a_40, hfo_24, ⟨ma_25, ka_25⟩, bv_26, ⟨ma_27, ka_27⟩, ⟨ma_28, ka_28⟩, ⟨ma_29, ka_29⟩, ⟨ma_30, ka_30⟩, bv_31, ⟨ma_32, ka_32⟩, ⟨ma_33, ka_33⟩, ⟨ma_34, ka_34⟩, ⟨ma_35, ka_35⟩, ⟨ma_36, ka_36⟩, bv_37, ⟨ma_38, ka_38⟩, ⟨ma_39, ka_39⟩, ⟨ma_40, ka_40⟩⟩ := un_7 (hG _ mo0) ko0
  obtain ⟨g_42, hfo_41, hbg_42⟩ := un_515 (hG _ ma_36) ka_36
  refine lv_aload_n hx hb dX7_copyFrom_0 rfl (lv_at hl 1 rfl) ?_
  refine tk_getP (D := (dC, dI)) (ci := 7) (v := .ref a_2) (C := RX7) (T := TX7) (N := 16) hx hb hU inlX7 hown hK hP mo1 hfo_1 rfl 0 (by decide) (hU _ wd_72) (fun _ h9 => h9) rfl dX7_copyFrom_1 ?_
  refine lv_iconst (v := 0) hx hb dX7_copyFrom_4 (by decide) ?_
  refine lv_aload_n hx hb dX7_copyFrom_5 rfl (lv_at hl 0 rfl) ?_
  refine tk_getP (D := (dC, dI)) (ci := 7) (v := .ref a_25) (C := RX7) (T := TX7) (N := 16) hx hb hU inlX7 hown hK hP mo0 hfo_24 rfl 0 (by decide) (hU _ wd_72) (fun _ h9 => h9) rfl dX7_copyFrom_6 ?_
  refine lv_iconst (v := 0) hx hb dX7_copyFrom_9 (by decide) ?_
  refine lv_aload_n hx hb dX7_copyFrom_10 rfl (lv_at hl 0 rfl) ?_
  refine tk_getP (D := (dC, dI)) (ci := 7) (v := .ref a_25) (C := RX7) (T := TX7) (N := 16) hx hb hU inlX7 hown hK hP mo0 hfo_24 rfl 0 (by decide) (hU _ wd_72) (fun _ h9 => h9) rfl dX7_copyFrom_11 ?_
  obtain ⟨g_44, hfo_43, hbg_44⟩ := un_508 (hG _ ma_25) ka_25
  refine tk_alenP (v := 26) hx hb hK hP 0 ma_25 hfo_43 rfl rfl dX7_copyFrom_14 ?_
  refine tk_copyP hx hb (by rw [hml]; exact hl.1.symm) hown (hU _ wd_534) (hU _ wd_253) (hU _ wd_254) (hU _ wd_255) hK hP hD hS 0 ma_2 ma_25 hfo_18 hfo_43 rfl (by decide) (by decide) (by decide) (by decide) (by decide) (Nat.le_of_ble_eq_true rfl) (Nat.le_of_ble_eq_true rfl) dX7_copyFrom_15 (fun H locs hP hD hS => ?_)
  obtain ⟨g_45, eqg_45⟩ : ∃ y : Nat → Int32, y = va_cpy g_19 g_44 (Int32.toNatClampNeg 0) (Int32.toNatClampNeg 0) (Int32.toNatClampNeg 26) := ⟨_, rfl⟩
  rw [← eqg_45] at hP hD
  have hbg_45 : ∀ j, 0 ≤ (g_45 j).toInt ∧ (g_45 j).toInt ≤ 8 := by rw [eqg_45]; exact okI_cpy (fun j => by have := hbg_19 j; constructor <;> omega) hbg_44 _ _ _
  obtain ⟨f_47, ef_47⟩ : ∃ y : Nat → va_E, y = va_up f a_25 (.inl (cI, 26, .inl g_45)) := ⟨_, rfl⟩
  have hP : va_P (dC, dI) vwCl (va_pl L f_47) H := by rw [ef_47]; exact hP
  have hD : va_D (fun q => q ∈ L) (va_pl L f_47) := by rw [ef_47]; exact hD
  have hG : GI (okc cI cL cZ cR cG cH L kd) kd L f_47 := by rw [ef_47]; exact hG.set a_25 (mk_508 ka_25 ⟨_, rfl, hbg_45⟩)
  have hfo_48 : f_47 o1 = .inr (7, [.ref a_2, .int v_3, .ref a_4, .ref a_5, .ref a_6, .ref a_7, .int v_8, .ref a_9, .ref a_10, .ref a_11, .ref a_12, .ref a_13, .int v_14, .ref a_15, .ref a_16, .ref a_17]) := by rw [ef_47, up_ne (kd_ne ka_25 ko1 (by decide))]; exact hfo_1
  have hfo_49 : f_47 a_2 = .inl (cI, 26, .inl g_19) := by rw [ef_47, up_ne (kd_ne ka_25 ka_2 (by decide))]; exact hfo_18
  have hfo_50 : f_47 a_5 = .inl (cI, 81, .inl g_21) := by rw [ef_47, up_ne (kd_ne ka_25 ka_5 (by decide))]; exact hfo_20
  have hfo_51 : f_47 a_13 = .inl (cR, 8, .inr (.inr (.inr (.inr g_23)))) := by rw [ef_47, up_ne (kd_ne ka_25 ka_13 (by decide))]; exact hfo_22
  have hfo_52 : f_47 o0 = .inr (7, [.ref a_25, .int v_26, .ref a_27, .ref a_28, .ref a_29, .ref a_30, .int v_31, .ref a_32, .ref a_33, .ref a_34, .ref a_35, .ref a_36, .int v_37, .ref a_38, .ref a_39, .ref a_40]) := by rw [ef_47, up_ne (kd_ne ka_25 ko0 (by decide))]; exact hfo_24
  have hfo_53 : f_47 a_36 = .inl (cR, 8, .inr (.inr (.inr (.inr g_42)))) := by rw [ef_47, up_ne (kd_ne ka_25 ka_36 (by decide))]; exact hfo_41
  have hfr0 : ∀ b, kd b ≠ 4 → kd b ≠ 5 → kd b ≠ 7 → kd b ≠ 9 → kd b ≠ 13 → kd b ≠ 500 → kd b ≠ 501 → kd b ≠ 502 → kd b ≠ 503 → kd b ≠ 504 → kd b ≠ 505 → kd b ≠ 506 → kd b ≠ 507 → kd b ≠ 508 → kd b ≠ 509 → kd b ≠ 510 → kd b ≠ 511 → kd b ≠ 514 → f_47 b = f b := fun b q4 q5 q7 q9 q13 q500 q501 q502 q503 q504 q505 q506 q507 q508 q509 q510 q511 q514 => (congrFun ef_47 b).trans ((up_ne (fun e9 => q508 (by rw [e9]; exact ka_25))).trans (hfr0 b q4 q5 q7 q9 q13 q500 q501 q502 q503 q504 q505 q506 q507 q508 q509 q510 q511 q514))
  have hrr7_0 : ∀ b, kd b = 7 → fldR (f_47 b) 0 = fldR (f b) 0 := fun b kb => (congrArg (fun x => fldR x 0) ((congrFun ef_47 b).trans (up_ne (kd_ne ka_25 kb (by decide))))).trans (hrr7_0 b kb)
  have hrr7_3 : ∀ b, kd b = 7 → fldR (f_47 b) 3 = fldR (f b) 3 := fun b kb => (congrArg (fun x => fldR x 3) ((congrFun ef_47 b).trans (up_ne (kd_ne ka_25 kb (by decide))))).trans (hrr7_3 b kb)
  have hrr7_11 : ∀ b, kd b = 7 → fldR (f_47 b) 11 = fldR (f b) 11 := fun b kb => (congrArg (fun x => fldR x 11) ((congrFun ef_47 b).trans (up_ne (kd_ne ka_25 kb (by decide))))).trans (hrr7_11 b kb)
  have hT0 : trel kd 107 549 551 556 104 f_47 o1 := by rw [ef_47]; exact hT0.up ka_25 (by decide) (by decide) (by decide) (by decide) (by decide)
  have hfo_54 : f_47 a_25 = .inl (cI, 26, .inl g_45) := by rw [ef_47]; exact up_self
  refine lv_aload_n hx hb dX7_copyFrom_18 rfl (lv_at hl 0 rfl) ?_
  refine lv_aload_n hx hb dX7_copyFrom_19 rfl (lv_at hl 1 rfl) ?_
  refine tk_getP (D := (dC, dI)) (ci := 7) (v := .int v_3) (C := RX7) (T := TX7) (N := 16) hx hb hU inlX7 hown hK hP mo1 hfo_48 rfl 1 (by decide) (hU _ wd_262) (fun _ h9 => h9) rfl dX7_copyFrom_20 ?_
  refine tk_putP (D := (dC, dI)) (ci := 7) (v := .int v_3) (ty := .int) (C := RX7) (T := TX7) (N := 16) hx hb hU inlX7 tyX7 tyX7_ok nmX7 hown hK hP hD hS mo0 hfo_52 rfl 1 (by decide) (hU _ wd_262) (fun _ h9 => h9) rfl (by decide +kernel) rfl rfl (Nat.le_of_ble_eq_true rfl) dX7_copyFrom_23 (fun H locs hP hD hS => ?_)
  obtain ⟨f_56, ef_56⟩ : ∃ y : Nat → va_E, y = va_up f_47 o0 (.inr (7, [.ref a_25, .int v_3, .ref a_27, .ref a_28, .ref a_29, .ref a_30, .int v_31, .ref a_32, .ref a_33, .ref a_34, .ref a_35, .ref a_36, .int v_37, .ref a_38, .ref a_39, .ref a_40])) := ⟨_, rfl⟩
  have hP : va_P (dC, dI) vwCl (va_pl L f_56) H := by rw [ef_56]; exact hP
  have hD : va_D (fun q => q ∈ L) (va_pl L f_56) := by rw [ef_56]; exact hD
  have hG : GI (okc cI cL cZ cR cG cH L kd) kd L f_56 := by rw [ef_56]; exact hG.set o0 (mk_7 ko0 ⟨a_25, v_3, a_27, a_28, a_29, a_30, v_31, a_32, a_33, a_34, a_35, a_36, v_37, a_38, a_39, a_40, rfl, ⟨ma_25, ka_25⟩, (by constructor <;> omega), ⟨ma_27, ka_27⟩, ⟨ma_28, ka_28⟩, ⟨ma_29, ka_29⟩, ⟨ma_30, ka_30⟩, (by constructor <;> omega), ⟨ma_32, ka_32⟩, ⟨ma_33, ka_33⟩, ⟨ma_34, ka_34⟩, ⟨ma_35, ka_35⟩, ⟨ma_36, ka_36⟩, (by constructor <;> omega), ⟨ma_38, ka_38⟩, ⟨ma_39, ka_39⟩, ⟨ma_40, ka_40⟩⟩)
  have hfo_57 : f_56 o1 = .inr (7, [.ref a_2, .int v_3, .ref a_4, .ref a_5, .ref a_6, .ref a_7, .int v_8, .ref a_9, .ref a_10, .ref a_11, .ref a_12, .ref a_13, .int v_14, .ref a_15, .ref a_16, .ref a_17]) := by rw [ef_56, up_ne (kd_ne ko0 ko1 (by decide))]; exact hfo_48
  have hfo_58 : f_56 a_2 = .inl (cI, 26, .inl g_19) := by rw [ef_56, up_ne (kd_ne ko0 ka_2 (by decide))]; exact hfo_49
  have hfo_59 : f_56 a_5 = .inl (cI, 81, .inl g_21) := by rw [ef_56, up_ne (kd_ne ko0 ka_5 (by decide))]; exact hfo_50
  have hfo_60 : f_56 a_13 = .inl (cR, 8, .inr (.inr (.inr (.inr g_23)))) := by rw [ef_56, up_ne (kd_ne ko0 ka_13 (by decide))]; exact hfo_51
  have hfo_61 : f_56 a_36 = .inl (cR, 8, .inr (.inr (.inr (.inr g_42)))) := by rw [ef_56, up_ne (kd_ne ko0 ka_36 (by decide))]; exact hfo_53
  have hfo_62 : f_56 a_25 = .inl (cI, 26, .inl g_45) := by rw [ef_56, up_ne (kd_ne ko0 ka_25 (by decide))]; exact hfo_54
  have hfr0 : ∀ b, kd b ≠ 4 → kd b ≠ 5 → kd b ≠ 7 → kd b ≠ 9 → kd b ≠ 13 → kd b ≠ 500 → kd b ≠ 501 → kd b ≠ 502 → kd b ≠ 503 → kd b ≠ 504 → kd b ≠ 505 → kd b ≠ 506 → kd b ≠ 507 → kd b ≠ 508 → kd b ≠ 509 → kd b ≠ 510 → kd b ≠ 511 → kd b ≠ 514 → f_56 b = f b := fun b q4 q5 q7 q9 q13 q500 q501 q502 q503 q504 q505 q506 q507 q508 q509 q510 q511 q514 => (congrFun ef_56 b).trans ((up_ne (fun e9 => q7 (by rw [e9]; exact ko0))).trans (hfr0 b q4 q5 q7 q9 q13 q500 q501 q502 q503 q504 q505 q506 q507 q508 q509 q510 q511 q514))
  have hrr7_0 : ∀ b, kd b = 7 → fldR (f_56 b) 0 = fldR (f b) 0 := fun b kb => ((congrArg (fun x => fldR x 0) (congrFun ef_56 b)).trans (fr_up (by rw [hfo_52]; rfl) b)).trans (hrr7_0 b kb)
  have hrr7_3 : ∀ b, kd b = 7 → fldR (f_56 b) 3 = fldR (f b) 3 := fun b kb => ((congrArg (fun x => fldR x 3) (congrFun ef_56 b)).trans (fr_up (by rw [hfo_52]; rfl) b)).trans (hrr7_3 b kb)
  have hrr7_11 : ∀ b, kd b = 7 → fldR (f_56 b) 11 = fldR (f b) 11 := fun b kb => ((congrArg (fun x => fldR x 11) (congrFun ef_56 b)).trans (fr_up (by rw [hfo_52]; rfl) b)).trans (hrr7_11 b kb)
  have hT0 : trel kd 107 549 551 556 104 f_56 o1 := by rw [ef_56]; exact hT0.up ko0 (by decide) (by decide) (by decide) (by decide) (by decide)
  have hfo_63 : f_56 o0 = .inr (7, [.ref a_25, .int v_3, .ref a_27, .ref a_28, .ref a_29, .ref a_30, .int v_31, .ref a_32, .ref a_33, .ref a_34, .ref a_35, .ref a_36, .int v_37, .ref a_38, .ref a_39, .ref a_40]) := by rw [ef_56]; exact up_self
  refine lv_aload_n hx hb dX7_copyFrom_26 rfl (lv_at hl 1 rfl) ?_
  refine tk_getP (D := (dC, dI)) (ci := 7) (v := .ref a_4) (C := RX7) (T := TX7) (N := 16) hx hb hU inlX7 hown hK hP mo1 hfo_57 rfl 2 (by decide) (hU _ wd_73) (fun _ h9 => h9) rfl dX7_copyFrom_27 ?_
  refine lv_iconst (v := 0) hx hb dX7_copyFrom_30 (by decide) ?_
  refine lv_aload_n hx hb dX7_copyFrom_31 rfl (lv_at hl 0 rfl) ?_
  refine tk_getP (D := (dC, dI)) (ci := 7) (v := .ref a_27) (C := RX7) (T := TX7) (N := 16) hx hb hU inlX7 hown hK hP mo0 hfo_63 rfl 2 (by decide) (hU _ wd_73) (fun _ h9 => h9) rfl dX7_copyFrom_32 ?_
  refine lv_iconst (v := 0) hx hb dX7_copyFrom_35 (by decide) ?_
  refine lv_aload_n hx hb dX7_copyFrom_36 rfl (lv_at hl 0 rfl) ?_
  refine tk_getP (D := (dC, dI)) (ci := 7) (v := .ref a_27) (C := RX7) (T := TX7) (N := 16) hx hb hU inlX7 hown hK hP mo0 hfo_63 rfl 2 (by decide) (hU _ wd_73) (fun _ h9 => h9) rfl dX7_copyFrom_37 ?_
  obtain ⟨g_65, hfo_64, hbg_65⟩ := un_509 (hG _ ma_27) ka_27
  refine tk_alenP (v := 6) hx hb hK hP 0 ma_27 hfo_64 rfl rfl dX7_copyFrom_40 ?_
  obtain ⟨g_67, hfo_66, hbg_67⟩ := un_550 (hG _ ma_4) ka_4
  refine tk_copyP hx hb (by rw [hml]; exact hl.1.symm) hown (hU _ wd_534) (hU _ wd_253) (hU _ wd_254) (hU _ wd_255) hK hP hD hS 0 ma_4 ma_27 hfo_66 hfo_64 rfl (by decide) (by decide) (by decide) (by decide) (by decide) (Nat.le_of_ble_eq_true rfl) (Nat.le_of_ble_eq_true rfl) dX7_copyFrom_41 (fun H locs hP hD hS => ?_)
  obtain ⟨g_68, eqg_68⟩ : ∃ y : Nat → Int32, y = va_cpy g_67 g_65 (Int32.toNatClampNeg 0) (Int32.toNatClampNeg 0) (Int32.toNatClampNeg 6) := ⟨_, rfl⟩
  rw [← eqg_68] at hP hD
  have hbg_68 : ∀ j, (-2147483648) ≤ (g_68 j).toInt ∧ (g_68 j).toInt ≤ 2147483647 := by rw [eqg_68]; exact okI_cpy (fun j => by have := hbg_67 j; constructor <;> omega) hbg_65 _ _ _
  obtain ⟨f_70, ef_70⟩ : ∃ y : Nat → va_E, y = va_up f_56 a_27 (.inl (cI, 6, .inl g_68)) := ⟨_, rfl⟩
  have hP : va_P (dC, dI) vwCl (va_pl L f_70) H := by rw [ef_70]; exact hP
  have hD : va_D (fun q => q ∈ L) (va_pl L f_70) := by rw [ef_70]; exact hD
  have hG : GI (okc cI cL cZ cR cG cH L kd) kd L f_70 := by rw [ef_70]; exact hG.set a_27 (mk_509 ka_27 ⟨_, rfl, hbg_68⟩)
  have hfo_71 : f_70 o1 = .inr (7, [.ref a_2, .int v_3, .ref a_4, .ref a_5, .ref a_6, .ref a_7, .int v_8, .ref a_9, .ref a_10, .ref a_11, .ref a_12, .ref a_13, .int v_14, .ref a_15, .ref a_16, .ref a_17]) := by rw [ef_70, up_ne (kd_ne ka_27 ko1 (by decide))]; exact hfo_57
  have hfo_72 : f_70 a_2 = .inl (cI, 26, .inl g_19) := by rw [ef_70, up_ne (kd_ne ka_27 ka_2 (by decide))]; exact hfo_58
  have hfo_73 : f_70 a_5 = .inl (cI, 81, .inl g_21) := by rw [ef_70, up_ne (kd_ne ka_27 ka_5 (by decide))]; exact hfo_59
  have hfo_74 : f_70 a_13 = .inl (cR, 8, .inr (.inr (.inr (.inr g_23)))) := by rw [ef_70, up_ne (kd_ne ka_27 ka_13 (by decide))]; exact hfo_60
  have hfo_75 : f_70 a_36 = .inl (cR, 8, .inr (.inr (.inr (.inr g_42)))) := by rw [ef_70, up_ne (kd_ne ka_27 ka_36 (by decide))]; exact hfo_61
  have hfo_76 : f_70 a_25 = .inl (cI, 26, .inl g_45) := by rw [ef_70, up_ne (kd_ne ka_27 ka_25 (by decide))]; exact hfo_62
  have hfo_77 : f_70 o0 = .inr (7, [.ref a_25, .int v_3, .ref a_27, .ref a_28, .ref a_29, .ref a_30, .int v_31, .ref a_32, .ref a_33, .ref a_34, .ref a_35, .ref a_36, .int v_37, .ref a_38, .ref a_39, .ref a_40]) := by rw [ef_70, up_ne (kd_ne ka_27 ko0 (by decide))]; exact hfo_63
  have hfo_78 : f_70 a_4 = .inl (cI, 6, .inl g_67) := by rw [ef_70, up_ne (kd_ne ka_27 ka_4 (by decide))]; exact hfo_66
  have hfr0 : ∀ b, kd b ≠ 4 → kd b ≠ 5 → kd b ≠ 7 → kd b ≠ 9 → kd b ≠ 13 → kd b ≠ 500 → kd b ≠ 501 → kd b ≠ 502 → kd b ≠ 503 → kd b ≠ 504 → kd b ≠ 505 → kd b ≠ 506 → kd b ≠ 507 → kd b ≠ 508 → kd b ≠ 509 → kd b ≠ 510 → kd b ≠ 511 → kd b ≠ 514 → f_70 b = f b := fun b q4 q5 q7 q9 q13 q500 q501 q502 q503 q504 q505 q506 q507 q508 q509 q510 q511 q514 => (congrFun ef_70 b).trans ((up_ne (fun e9 => q509 (by rw [e9]; exact ka_27))).trans (hfr0 b q4 q5 q7 q9 q13 q500 q501 q502 q503 q504 q505 q506 q507 q508 q509 q510 q511 q514))
  have hrr7_0 : ∀ b, kd b = 7 → fldR (f_70 b) 0 = fldR (f b) 0 := fun b kb => (congrArg (fun x => fldR x 0) ((congrFun ef_70 b).trans (up_ne (kd_ne ka_27 kb (by decide))))).trans (hrr7_0 b kb)
  have hrr7_3 : ∀ b, kd b = 7 → fldR (f_70 b) 3 = fldR (f b) 3 := fun b kb => (congrArg (fun x => fldR x 3) ((congrFun ef_70 b).trans (up_ne (kd_ne ka_27 kb (by decide))))).trans (hrr7_3 b kb)
  have hrr7_11 : ∀ b, kd b = 7 → fldR (f_70 b) 11 = fldR (f b) 11 := fun b kb => (congrArg (fun x => fldR x 11) ((congrFun ef_70 b).trans (up_ne (kd_ne ka_27 kb (by decide))))).trans (hrr7_11 b kb)
  have hT0 : trel kd 107 549 551 556 104 f_70 o1 := by rw [ef_70]; exact hT0.up ka_27 (by decide) (by decide) (by decide) (by decide) (by decide)
  have hfo_79 : f_70 a_27 = .inl (cI, 6, .inl g_68) := by rw [ef_70]; exact up_self
  refine lv_aload_n hx hb dX7_copyFrom_44 rfl (lv_at hl 1 rfl) ?_
  refine tk_getP (D := (dC, dI)) (ci := 7) (v := .ref a_5) (C := RX7) (T := TX7) (N := 16) hx hb hU inlX7 hown hK hP mo1 hfo_71 rfl 3 (by decide) (hU _ wd_74) (fun _ h9 => h9) rfl dX7_copyFrom_45 ?_
  refine lv_iconst (v := 0) hx hb dX7_copyFrom_48 (by decide) ?_
  refine lv_aload_n hx hb dX7_copyFrom_49 rfl (lv_at hl 0 rfl) ?_
  refine tk_getP (D := (dC, dI)) (ci := 7) (v := .ref a_28) (C := RX7) (T := TX7) (N := 16) hx hb hU inlX7 hown hK hP mo0 hfo_77 rfl 3 (by decide) (hU _ wd_74) (fun _ h9 => h9) rfl dX7_copyFrom_50 ?_
  refine lv_iconst (v := 0) hx hb dX7_copyFrom_53 (by decide) ?_
  refine lv_aload_n hx hb dX7_copyFrom_54 rfl (lv_at hl 0 rfl) ?_
  refine tk_getP (D := (dC, dI)) (ci := 7) (v := .ref a_28) (C := RX7) (T := TX7) (N := 16) hx hb hU inlX7 hown hK hP mo0 hfo_77 rfl 3 (by decide) (hU _ wd_74) (fun _ h9 => h9) rfl dX7_copyFrom_55 ?_
  obtain ⟨g_81, hfo_80, hbg_81⟩ := un_510 (hG _ ma_28) ka_28
  refine tk_alenP (v := 81) hx hb hK hP 0 ma_28 hfo_80 rfl rfl dX7_copyFrom_58 ?_
  refine tk_copyP hx hb (by rw [hml]; exact hl.1.symm) hown (hU _ wd_534) (hU _ wd_253) (hU _ wd_254) (hU _ wd_255) hK hP hD hS 0 ma_5 ma_28 hfo_73 hfo_80 rfl (by decide) (by decide) (by decide) (by decide) (by decide) (Nat.le_of_ble_eq_true rfl) (Nat.le_of_ble_eq_true rfl) dX7_copyFrom_59 (fun H locs hP hD hS => ?_)
  obtain ⟨g_82, eqg_82⟩ : ∃ y : Nat → Int32, y = va_cpy g_21 g_81 (Int32.toNatClampNeg 0) (Int32.toNatClampNeg 0) (Int32.toNatClampNeg 81) := ⟨_, rfl⟩
  rw [← eqg_82] at hP hD
  have hbg_82 : ∀ j, 0 ≤ (g_82 j).toInt ∧ (g_82 j).toInt ≤ 20 := by rw [eqg_82]; exact okI_cpy (fun j => by have := hbg_21 j; constructor <;> omega) hbg_81 _ _ _
  obtain ⟨f_84, ef_84⟩ : ∃ y : Nat → va_E, y = va_up f_70 a_28 (.inl (cI, 81, .inl g_82)) := ⟨_, rfl⟩
  have hP : va_P (dC, dI) vwCl (va_pl L f_84) H := by rw [ef_84]; exact hP
  have hD : va_D (fun q => q ∈ L) (va_pl L f_84) := by rw [ef_84]; exact hD
  have hG : GI (okc cI cL cZ cR cG cH L kd) kd L f_84 := by rw [ef_84]; exact hG.set a_28 (mk_510 ka_28 ⟨_, rfl, hbg_82⟩)
  have hfo_85 : f_84 o1 = .inr (7, [.ref a_2, .int v_3, .ref a_4, .ref a_5, .ref a_6, .ref a_7, .int v_8, .ref a_9, .ref a_10, .ref a_11, .ref a_12, .ref a_13, .int v_14, .ref a_15, .ref a_16, .ref a_17]) := by rw [ef_84, up_ne (kd_ne ka_28 ko1 (by decide))]; exact hfo_71
  have hfo_86 : f_84 a_2 = .inl (cI, 26, .inl g_19) := by rw [ef_84, up_ne (kd_ne ka_28 ka_2 (by decide))]; exact hfo_72
  have hfo_87 : f_84 a_5 = .inl (cI, 81, .inl g_21) := by rw [ef_84, up_ne (kd_ne ka_28 ka_5 (by decide))]; exact hfo_73
  have hfo_88 : f_84 a_13 = .inl (cR, 8, .inr (.inr (.inr (.inr g_23)))) := by rw [ef_84, up_ne (kd_ne ka_28 ka_13 (by decide))]; exact hfo_74
  have hfo_89 : f_84 a_36 = .inl (cR, 8, .inr (.inr (.inr (.inr g_42)))) := by rw [ef_84, up_ne (kd_ne ka_28 ka_36 (by decide))]; exact hfo_75
  have hfo_90 : f_84 a_25 = .inl (cI, 26, .inl g_45) := by rw [ef_84, up_ne (kd_ne ka_28 ka_25 (by decide))]; exact hfo_76
  have hfo_91 : f_84 o0 = .inr (7, [.ref a_25, .int v_3, .ref a_27, .ref a_28, .ref a_29, .ref a_30, .int v_31, .ref a_32, .ref a_33, .ref a_34, .ref a_35, .ref a_36, .int v_37, .ref a_38, .ref a_39, .ref a_40]) := by rw [ef_84, up_ne (kd_ne ka_28 ko0 (by decide))]; exact hfo_77
  have hfo_92 : f_84 a_4 = .inl (cI, 6, .inl g_67) := by rw [ef_84, up_ne (kd_ne ka_28 ka_4 (by decide))]; exact hfo_78
  have hfo_93 : f_84 a_27 = .inl (cI, 6, .inl g_68) := by rw [ef_84, up_ne (kd_ne ka_28 ka_27 (by decide))]; exact hfo_79
  have hfr0 : ∀ b, kd b ≠ 4 → kd b ≠ 5 → kd b ≠ 7 → kd b ≠ 9 → kd b ≠ 13 → kd b ≠ 500 → kd b ≠ 501 → kd b ≠ 502 → kd b ≠ 503 → kd b ≠ 504 → kd b ≠ 505 → kd b ≠ 506 → kd b ≠ 507 → kd b ≠ 508 → kd b ≠ 509 → kd b ≠ 510 → kd b ≠ 511 → kd b ≠ 514 → f_84 b = f b := fun b q4 q5 q7 q9 q13 q500 q501 q502 q503 q504 q505 q506 q507 q508 q509 q510 q511 q514 => (congrFun ef_84 b).trans ((up_ne (fun e9 => q510 (by rw [e9]; exact ka_28))).trans (hfr0 b q4 q5 q7 q9 q13 q500 q501 q502 q503 q504 q505 q506 q507 q508 q509 q510 q511 q514))
  have hrr7_0 : ∀ b, kd b = 7 → fldR (f_84 b) 0 = fldR (f b) 0 := fun b kb => (congrArg (fun x => fldR x 0) ((congrFun ef_84 b).trans (up_ne (kd_ne ka_28 kb (by decide))))).trans (hrr7_0 b kb)
  have hrr7_3 : ∀ b, kd b = 7 → fldR (f_84 b) 3 = fldR (f b) 3 := fun b kb => (congrArg (fun x => fldR x 3) ((congrFun ef_84 b).trans (up_ne (kd_ne ka_28 kb (by decide))))).trans (hrr7_3 b kb)
  have hrr7_11 : ∀ b, kd b = 7 → fldR (f_84 b) 11 = fldR (f b) 11 := fun b kb => (congrArg (fun x => fldR x 11) ((congrFun ef_84 b).trans (up_ne (kd_ne ka_28 kb (by decide))))).trans (hrr7_11 b kb)
  have hT0 : trel kd 107 549 551 556 104 f_84 o1 := by rw [ef_84]; exact hT0.up ka_28 (by decide) (by decide) (by decide) (by decide) (by decide)
  have hfo_94 : f_84 a_28 = .inl (cI, 81, .inl g_82) := by rw [ef_84]; exact up_self
  refine lv_aload_n hx hb dX7_copyFrom_62 rfl (lv_at hl 1 rfl) ?_
  refine tk_getP (D := (dC, dI)) (ci := 7) (v := .ref a_6) (C := RX7) (T := TX7) (N := 16) hx hb hU inlX7 hown hK hP mo1 hfo_85 rfl 4 (by decide) (hU _ wd_75) (fun _ h9 => h9) rfl dX7_copyFrom_63 ?_
  refine lv_iconst (v := 0) hx hb dX7_copyFrom_66 (by decide) ?_
  refine lv_aload_n hx hb dX7_copyFrom_67 rfl (lv_at hl 0 rfl) ?_
  refine tk_getP (D := (dC, dI)) (ci := 7) (v := .ref a_29) (C := RX7) (T := TX7) (N := 16) hx hb hU inlX7 hown hK hP mo0 hfo_91 rfl 4 (by decide) (hU _ wd_75) (fun _ h9 => h9) rfl dX7_copyFrom_68 ?_
  refine lv_iconst (v := 0) hx hb dX7_copyFrom_71 (by decide) ?_
  refine lv_aload_n hx hb dX7_copyFrom_72 rfl (lv_at hl 0 rfl) ?_
  refine tk_getP (D := (dC, dI)) (ci := 7) (v := .ref a_29) (C := RX7) (T := TX7) (N := 16) hx hb hU inlX7 hown hK hP mo0 hfo_91 rfl 4 (by decide) (hU _ wd_75) (fun _ h9 => h9) rfl dX7_copyFrom_73 ?_
  obtain ⟨g_96, hfo_95, hbg_96⟩ := un_511 (hG _ ma_29) ka_29
  refine tk_alenP (v := 20) hx hb hK hP 0 ma_29 hfo_95 rfl rfl dX7_copyFrom_76 ?_
  obtain ⟨g_98, hfo_97, hbg_98⟩ := un_552 (hG _ ma_6) ka_6
  refine tk_copyP hx hb (by rw [hml]; exact hl.1.symm) hown (hU _ wd_534) (hU _ wd_253) (hU _ wd_254) (hU _ wd_255) hK hP hD hS 0 ma_6 ma_29 hfo_97 hfo_95 rfl (by decide) (by decide) (by decide) (by decide) (by decide) (Nat.le_of_ble_eq_true rfl) (Nat.le_of_ble_eq_true rfl) dX7_copyFrom_77 (fun H locs hP hD hS => ?_)
  obtain ⟨g_99, eqg_99⟩ : ∃ y : Nat → Int32, y = va_cpy g_98 g_96 (Int32.toNatClampNeg 0) (Int32.toNatClampNeg 0) (Int32.toNatClampNeg 20) := ⟨_, rfl⟩
  rw [← eqg_99] at hP hD
  have hbg_99 : ∀ j, 0 ≤ (g_99 j).toInt ∧ (g_99 j).toInt ≤ 8 := by rw [eqg_99]; exact okI_cpy (fun j => by have := hbg_98 j; constructor <;> omega) hbg_96 _ _ _
  obtain ⟨f_101, ef_101⟩ : ∃ y : Nat → va_E, y = va_up f_84 a_29 (.inl (cI, 20, .inl g_99)) := ⟨_, rfl⟩
  have hP : va_P (dC, dI) vwCl (va_pl L f_101) H := by rw [ef_101]; exact hP
  have hD : va_D (fun q => q ∈ L) (va_pl L f_101) := by rw [ef_101]; exact hD
  have hG : GI (okc cI cL cZ cR cG cH L kd) kd L f_101 := by rw [ef_101]; exact hG.set a_29 (mk_511 ka_29 ⟨_, rfl, hbg_99⟩)
  have hfo_102 : f_101 o1 = .inr (7, [.ref a_2, .int v_3, .ref a_4, .ref a_5, .ref a_6, .ref a_7, .int v_8, .ref a_9, .ref a_10, .ref a_11, .ref a_12, .ref a_13, .int v_14, .ref a_15, .ref a_16, .ref a_17]) := by rw [ef_101, up_ne (kd_ne ka_29 ko1 (by decide))]; exact hfo_85
  have hfo_103 : f_101 a_2 = .inl (cI, 26, .inl g_19) := by rw [ef_101, up_ne (kd_ne ka_29 ka_2 (by decide))]; exact hfo_86
  have hfo_104 : f_101 a_5 = .inl (cI, 81, .inl g_21) := by rw [ef_101, up_ne (kd_ne ka_29 ka_5 (by decide))]; exact hfo_87
  have hfo_105 : f_101 a_13 = .inl (cR, 8, .inr (.inr (.inr (.inr g_23)))) := by rw [ef_101, up_ne (kd_ne ka_29 ka_13 (by decide))]; exact hfo_88
  have hfo_106 : f_101 a_36 = .inl (cR, 8, .inr (.inr (.inr (.inr g_42)))) := by rw [ef_101, up_ne (kd_ne ka_29 ka_36 (by decide))]; exact hfo_89
  have hfo_107 : f_101 a_25 = .inl (cI, 26, .inl g_45) := by rw [ef_101, up_ne (kd_ne ka_29 ka_25 (by decide))]; exact hfo_90
  have hfo_108 : f_101 o0 = .inr (7, [.ref a_25, .int v_3, .ref a_27, .ref a_28, .ref a_29, .ref a_30, .int v_31, .ref a_32, .ref a_33, .ref a_34, .ref a_35, .ref a_36, .int v_37, .ref a_38, .ref a_39, .ref a_40]) := by rw [ef_101, up_ne (kd_ne ka_29 ko0 (by decide))]; exact hfo_91
  have hfo_109 : f_101 a_4 = .inl (cI, 6, .inl g_67) := by rw [ef_101, up_ne (kd_ne ka_29 ka_4 (by decide))]; exact hfo_92
  have hfo_110 : f_101 a_27 = .inl (cI, 6, .inl g_68) := by rw [ef_101, up_ne (kd_ne ka_29 ka_27 (by decide))]; exact hfo_93
  have hfo_111 : f_101 a_28 = .inl (cI, 81, .inl g_82) := by rw [ef_101, up_ne (kd_ne ka_29 ka_28 (by decide))]; exact hfo_94
  have hfo_112 : f_101 a_6 = .inl (cI, 20, .inl g_98) := by rw [ef_101, up_ne (kd_ne ka_29 ka_6 (by decide))]; exact hfo_97
  have hfr0 : ∀ b, kd b ≠ 4 → kd b ≠ 5 → kd b ≠ 7 → kd b ≠ 9 → kd b ≠ 13 → kd b ≠ 500 → kd b ≠ 501 → kd b ≠ 502 → kd b ≠ 503 → kd b ≠ 504 → kd b ≠ 505 → kd b ≠ 506 → kd b ≠ 507 → kd b ≠ 508 → kd b ≠ 509 → kd b ≠ 510 → kd b ≠ 511 → kd b ≠ 514 → f_101 b = f b := fun b q4 q5 q7 q9 q13 q500 q501 q502 q503 q504 q505 q506 q507 q508 q509 q510 q511 q514 => (congrFun ef_101 b).trans ((up_ne (fun e9 => q511 (by rw [e9]; exact ka_29))).trans (hfr0 b q4 q5 q7 q9 q13 q500 q501 q502 q503 q504 q505 q506 q507 q508 q509 q510 q511 q514))
  have hrr7_0 : ∀ b, kd b = 7 → fldR (f_101 b) 0 = fldR (f b) 0 := fun b kb => (congrArg (fun x => fldR x 0) ((congrFun ef_101 b).trans (up_ne (kd_ne ka_29 kb (by decide))))).trans (hrr7_0 b kb)
  have hrr7_3 : ∀ b, kd b = 7 → fldR (f_101 b) 3 = fldR (f b) 3 := fun b kb => (congrArg (fun x => fldR x 3) ((congrFun ef_101 b).trans (up_ne (kd_ne ka_29 kb (by decide))))).trans (hrr7_3 b kb)
  have hrr7_11 : ∀ b, kd b = 7 → fldR (f_101 b) 11 = fldR (f b) 11 := fun b kb => (congrArg (fun x => fldR x 11) ((congrFun ef_101 b).trans (up_ne (kd_ne ka_29 kb (by decide))))).trans (hrr7_11 b kb)
  have hT0 : trel kd 107 549 551 556 104 f_101 o1 := by rw [ef_101]; exact hT0.up ka_29 (by decide) (by decide) (by decide) (by decide) (by decide)
  have hfo_113 : f_101 a_29 = .inl (cI, 20, .inl g_99) := by rw [ef_101]; exact up_self
  refine lv_aload_n hx hb dX7_copyFrom_80 rfl (lv_at hl 1 rfl) ?_
  refine tk_getP (D := (dC, dI)) (ci := 7) (v := .ref a_7) (C := RX7) (T := TX7) (N := 16) hx hb hU inlX7 hown hK hP mo1 hfo_102 rfl 5 (by decide) (hU _ wd_76) (fun _ h9 => h9) rfl dX7_copyFrom_81 ?_
  refine lv_iconst (v := 0) hx hb dX7_copyFrom_84 (by decide) ?_
  refine lv_aload_n hx hb dX7_copyFrom_85 rfl (lv_at hl 0 rfl) ?_
  refine tk_getP (D := (dC, dI)) (ci := 7) (v := .ref a_30) (C := RX7) (T := TX7) (N := 16) hx hb hU inlX7 hown hK hP mo0 hfo_108 rfl 5 (by decide) (hU _ wd_76) (fun _ h9 => h9) rfl dX7_copyFrom_86 ?_
  refine lv_iconst (v := 0) hx hb dX7_copyFrom_89 (by decide) ?_
  refine lv_aload_n hx hb dX7_copyFrom_90 rfl (lv_at hl 0 rfl) ?_
  refine tk_getP (D := (dC, dI)) (ci := 7) (v := .ref a_30) (C := RX7) (T := TX7) (N := 16) hx hb hU inlX7 hown hK hP mo0 hfo_108 rfl 5 (by decide) (hU _ wd_76) (fun _ h9 => h9) rfl dX7_copyFrom_91 ?_
  obtain ⟨g_115, hfo_114, hbg_115⟩ := un_511 (hG _ ma_30) ka_30
  refine tk_alenP (v := 20) hx hb hK hP 0 ma_30 hfo_114 rfl rfl dX7_copyFrom_94 ?_
  obtain ⟨g_117, hfo_116, hbg_117⟩ := un_552 (hG _ ma_7) ka_7
  refine tk_copyP hx hb (by rw [hml]; exact hl.1.symm) hown (hU _ wd_534) (hU _ wd_253) (hU _ wd_254) (hU _ wd_255) hK hP hD hS 0 ma_7 ma_30 hfo_116 hfo_114 rfl (by decide) (by decide) (by decide) (by decide) (by decide) (Nat.le_of_ble_eq_true rfl) (Nat.le_of_ble_eq_true rfl) dX7_copyFrom_95 (fun H locs hP hD hS => ?_)
  obtain ⟨g_118, eqg_118⟩ : ∃ y : Nat → Int32, y = va_cpy g_117 g_115 (Int32.toNatClampNeg 0) (Int32.toNatClampNeg 0) (Int32.toNatClampNeg 20) := ⟨_, rfl⟩
  rw [← eqg_118] at hP hD
  have hbg_118 : ∀ j, 0 ≤ (g_118 j).toInt ∧ (g_118 j).toInt ≤ 8 := by rw [eqg_118]; exact okI_cpy (fun j => by have := hbg_117 j; constructor <;> omega) hbg_115 _ _ _
  obtain ⟨f_120, ef_120⟩ : ∃ y : Nat → va_E, y = va_up f_101 a_30 (.inl (cI, 20, .inl g_118)) := ⟨_, rfl⟩
  have hP : va_P (dC, dI) vwCl (va_pl L f_120) H := by rw [ef_120]; exact hP
  have hD : va_D (fun q => q ∈ L) (va_pl L f_120) := by rw [ef_120]; exact hD
  have hG : GI (okc cI cL cZ cR cG cH L kd) kd L f_120 := by rw [ef_120]; exact hG.set a_30 (mk_511 ka_30 ⟨_, rfl, hbg_118⟩)
  have hfo_121 : f_120 o1 = .inr (7, [.ref a_2, .int v_3, .ref a_4, .ref a_5, .ref a_6, .ref a_7, .int v_8, .ref a_9, .ref a_10, .ref a_11, .ref a_12, .ref a_13, .int v_14, .ref a_15, .ref a_16, .ref a_17]) := by rw [ef_120, up_ne (kd_ne ka_30 ko1 (by decide))]; exact hfo_102
  have hfo_122 : f_120 a_2 = .inl (cI, 26, .inl g_19) := by rw [ef_120, up_ne (kd_ne ka_30 ka_2 (by decide))]; exact hfo_103
  have hfo_123 : f_120 a_5 = .inl (cI, 81, .inl g_21) := by rw [ef_120, up_ne (kd_ne ka_30 ka_5 (by decide))]; exact hfo_104
  have hfo_124 : f_120 a_13 = .inl (cR, 8, .inr (.inr (.inr (.inr g_23)))) := by rw [ef_120, up_ne (kd_ne ka_30 ka_13 (by decide))]; exact hfo_105
  have hfo_125 : f_120 a_36 = .inl (cR, 8, .inr (.inr (.inr (.inr g_42)))) := by rw [ef_120, up_ne (kd_ne ka_30 ka_36 (by decide))]; exact hfo_106
  have hfo_126 : f_120 a_25 = .inl (cI, 26, .inl g_45) := by rw [ef_120, up_ne (kd_ne ka_30 ka_25 (by decide))]; exact hfo_107
  have hfo_127 : f_120 o0 = .inr (7, [.ref a_25, .int v_3, .ref a_27, .ref a_28, .ref a_29, .ref a_30, .int v_31, .ref a_32, .ref a_33, .ref a_34, .ref a_35, .ref a_36, .int v_37, .ref a_38, .ref a_39, .ref a_40]) := by rw [ef_120, up_ne (kd_ne ka_30 ko0 (by decide))]; exact hfo_108
  have hfo_128 : f_120 a_4 = .inl (cI, 6, .inl g_67) := by rw [ef_120, up_ne (kd_ne ka_30 ka_4 (by decide))]; exact hfo_109
  have hfo_129 : f_120 a_27 = .inl (cI, 6, .inl g_68) := by rw [ef_120, up_ne (kd_ne ka_30 ka_27 (by decide))]; exact hfo_110
  have hfo_130 : f_120 a_28 = .inl (cI, 81, .inl g_82) := by rw [ef_120, up_ne (kd_ne ka_30 ka_28 (by decide))]; exact hfo_111
  have hfo_131 : f_120 a_6 = .inl (cI, 20, .inl g_98) := by rw [ef_120, up_ne (kd_ne ka_30 ka_6 (by decide))]; exact hfo_112
  have hfo_132 : f_120 a_7 = .inl (cI, 20, .inl g_117) := by rw [ef_120, up_ne (kd_ne ka_30 ka_7 (by decide))]; exact hfo_116
  have hfr0 : ∀ b, kd b ≠ 4 → kd b ≠ 5 → kd b ≠ 7 → kd b ≠ 9 → kd b ≠ 13 → kd b ≠ 500 → kd b ≠ 501 → kd b ≠ 502 → kd b ≠ 503 → kd b ≠ 504 → kd b ≠ 505 → kd b ≠ 506 → kd b ≠ 507 → kd b ≠ 508 → kd b ≠ 509 → kd b ≠ 510 → kd b ≠ 511 → kd b ≠ 514 → f_120 b = f b := fun b q4 q5 q7 q9 q13 q500 q501 q502 q503 q504 q505 q506 q507 q508 q509 q510 q511 q514 => (congrFun ef_120 b).trans ((up_ne (fun e9 => q511 (by rw [e9]; exact ka_30))).trans (hfr0 b q4 q5 q7 q9 q13 q500 q501 q502 q503 q504 q505 q506 q507 q508 q509 q510 q511 q514))
  have hrr7_0 : ∀ b, kd b = 7 → fldR (f_120 b) 0 = fldR (f b) 0 := fun b kb => (congrArg (fun x => fldR x 0) ((congrFun ef_120 b).trans (up_ne (kd_ne ka_30 kb (by decide))))).trans (hrr7_0 b kb)
  have hrr7_3 : ∀ b, kd b = 7 → fldR (f_120 b) 3 = fldR (f b) 3 := fun b kb => (congrArg (fun x => fldR x 3) ((congrFun ef_120 b).trans (up_ne (kd_ne ka_30 kb (by decide))))).trans (hrr7_3 b kb)
  have hrr7_11 : ∀ b, kd b = 7 → fldR (f_120 b) 11 = fldR (f b) 11 := fun b kb => (congrArg (fun x => fldR x 11) ((congrFun ef_120 b).trans (up_ne (kd_ne ka_30 kb (by decide))))).trans (hrr7_11 b kb)
  have hT0 : trel kd 107 549 551 556 104 f_120 o1 := by rw [ef_120]; exact hT0.up ka_30 (by decide) (by decide) (by decide) (by decide) (by decide)
  have hfo_133 : f_120 a_30 = .inl (cI, 20, .inl g_118) := by rw [ef_120]; exact up_self
  refine lv_aload_n hx hb dX7_copyFrom_98 rfl (lv_at hl 0 rfl) ?_
  refine lv_aload_n hx hb dX7_copyFrom_99 rfl (lv_at hl 1 rfl) ?_
  refine tk_getP (D := (dC, dI)) (ci := 7) (v := .int v_8) (C := RX7) (T := TX7) (N := 16) hx hb hU inlX7 hown hK hP mo1 hfo_121 rfl 6 (by decide) (hU _ wd_263) (fun _ h9 => h9) rfl dX7_copyFrom_100 ?_
  refine tk_putP (D := (dC, dI)) (ci := 7) (v := .int v_8) (ty := .int) (C := RX7) (T := TX7) (N := 16) hx hb hU inlX7 tyX7 tyX7_ok nmX7 hown hK hP hD hS mo0 hfo_127 rfl 6 (by decide) (hU _ wd_263) (fun _ h9 => h9) rfl (by decide +kernel) rfl rfl (Nat.le_of_ble_eq_true rfl) dX7_copyFrom_103 (fun H locs hP hD hS => ?_)
  obtain ⟨f_135, ef_135⟩ : ∃ y : Nat → va_E, y = va_up f_120 o0 (.inr (7, [.ref a_25, .int v_3, .ref a_27, .ref a_28, .ref a_29, .ref a_30, .int v_8, .ref a_32, .ref a_33, .ref a_34, .ref a_35, .ref a_36, .int v_37, .ref a_38, .ref a_39, .ref a_40])) := ⟨_, rfl⟩
  have hP : va_P (dC, dI) vwCl (va_pl L f_135) H := by rw [ef_135]; exact hP
  have hD : va_D (fun q => q ∈ L) (va_pl L f_135) := by rw [ef_135]; exact hD
  have hG : GI (okc cI cL cZ cR cG cH L kd) kd L f_135 := by rw [ef_135]; exact hG.set o0 (mk_7 ko0 ⟨a_25, v_3, a_27, a_28, a_29, a_30, v_8, a_32, a_33, a_34, a_35, a_36, v_37, a_38, a_39, a_40, rfl, ⟨ma_25, ka_25⟩, (by constructor <;> omega), ⟨ma_27, ka_27⟩, ⟨ma_28, ka_28⟩, ⟨ma_29, ka_29⟩, ⟨ma_30, ka_30⟩, (by constructor <;> omega), ⟨ma_32, ka_32⟩, ⟨ma_33, ka_33⟩, ⟨ma_34, ka_34⟩, ⟨ma_35, ka_35⟩, ⟨ma_36, ka_36⟩, (by constructor <;> omega), ⟨ma_38, ka_38⟩, ⟨ma_39, ka_39⟩, ⟨ma_40, ka_40⟩⟩)
  have hfo_136 : f_135 o1 = .inr (7, [.ref a_2, .int v_3, .ref a_4, .ref a_5, .ref a_6, .ref a_7, .int v_8, .ref a_9, .ref a_10, .ref a_11, .ref a_12, .ref a_13, .int v_14, .ref a_15, .ref a_16, .ref a_17]) := by rw [ef_135, up_ne (kd_ne ko0 ko1 (by decide))]; exact hfo_121
  have hfo_137 : f_135 a_2 = .inl (cI, 26, .inl g_19) := by rw [ef_135, up_ne (kd_ne ko0 ka_2 (by decide))]; exact hfo_122
  have hfo_138 : f_135 a_5 = .inl (cI, 81, .inl g_21) := by rw [ef_135, up_ne (kd_ne ko0 ka_5 (by decide))]; exact hfo_123
  have hfo_139 : f_135 a_13 = .inl (cR, 8, .inr (.inr (.inr (.inr g_23)))) := by rw [ef_135, up_ne (kd_ne ko0 ka_13 (by decide))]; exact hfo_124
  have hfo_140 : f_135 a_36 = .inl (cR, 8, .inr (.inr (.inr (.inr g_42)))) := by rw [ef_135, up_ne (kd_ne ko0 ka_36 (by decide))]; exact hfo_125
  have hfo_141 : f_135 a_25 = .inl (cI, 26, .inl g_45) := by rw [ef_135, up_ne (kd_ne ko0 ka_25 (by decide))]; exact hfo_126
  have hfo_142 : f_135 a_4 = .inl (cI, 6, .inl g_67) := by rw [ef_135, up_ne (kd_ne ko0 ka_4 (by decide))]; exact hfo_128
  have hfo_143 : f_135 a_27 = .inl (cI, 6, .inl g_68) := by rw [ef_135, up_ne (kd_ne ko0 ka_27 (by decide))]; exact hfo_129
  have hfo_144 : f_135 a_28 = .inl (cI, 81, .inl g_82) := by rw [ef_135, up_ne (kd_ne ko0 ka_28 (by decide))]; exact hfo_130
  have hfo_145 : f_135 a_6 = .inl (cI, 20, .inl g_98) := by rw [ef_135, up_ne (kd_ne ko0 ka_6 (by decide))]; exact hfo_131
  have hfo_146 : f_135 a_7 = .inl (cI, 20, .inl g_117) := by rw [ef_135, up_ne (kd_ne ko0 ka_7 (by decide))]; exact hfo_132
  have hfo_147 : f_135 a_30 = .inl (cI, 20, .inl g_118) := by rw [ef_135, up_ne (kd_ne ko0 ka_30 (by decide))]; exact hfo_133
  have hfr0 : ∀ b, kd b ≠ 4 → kd b ≠ 5 → kd b ≠ 7 → kd b ≠ 9 → kd b ≠ 13 → kd b ≠ 500 → kd b ≠ 501 → kd b ≠ 502 → kd b ≠ 503 → kd b ≠ 504 → kd b ≠ 505 → kd b ≠ 506 → kd b ≠ 507 → kd b ≠ 508 → kd b ≠ 509 → kd b ≠ 510 → kd b ≠ 511 → kd b ≠ 514 → f_135 b = f b := fun b q4 q5 q7 q9 q13 q500 q501 q502 q503 q504 q505 q506 q507 q508 q509 q510 q511 q514 => (congrFun ef_135 b).trans ((up_ne (fun e9 => q7 (by rw [e9]; exact ko0))).trans (hfr0 b q4 q5 q7 q9 q13 q500 q501 q502 q503 q504 q505 q506 q507 q508 q509 q510 q511 q514))
  have hrr7_0 : ∀ b, kd b = 7 → fldR (f_135 b) 0 = fldR (f b) 0 := fun b kb => ((congrArg (fun x => fldR x 0) (congrFun ef_135 b)).trans (fr_up (by rw [hfo_127]; rfl) b)).trans (hrr7_0 b kb)
  have hrr7_3 : ∀ b, kd b = 7 → fldR (f_135 b) 3 = fldR (f b) 3 := fun b kb => ((congrArg (fun x => fldR x 3) (congrFun ef_135 b)).trans (fr_up (by rw [hfo_127]; rfl) b)).trans (hrr7_3 b kb)
  have hrr7_11 : ∀ b, kd b = 7 → fldR (f_135 b) 11 = fldR (f b) 11 := fun b kb => ((congrArg (fun x => fldR x 11) (congrFun ef_135 b)).trans (fr_up (by rw [hfo_127]; rfl) b)).trans (hrr7_11 b kb)
  have hT0 : trel kd 107 549 551 556 104 f_135 o1 := by rw [ef_135]; exact hT0.up ko0 (by decide) (by decide) (by decide) (by decide) (by decide)
  have hfo_148 : f_135 o0 = .inr (7, [.ref a_25, .int v_3, .ref a_27, .ref a_28, .ref a_29, .ref a_30, .int v_8, .ref a_32, .ref a_33, .ref a_34, .ref a_35, .ref a_36, .int v_37, .ref a_38, .ref a_39, .ref a_40]) := by rw [ef_135]; exact up_self
  refine lv_aload_n hx hb dX7_copyFrom_106 rfl (lv_at hl 1 rfl) ?_
  refine tk_getP (D := (dC, dI)) (ci := 7) (v := .ref a_11) (C := RX7) (T := TX7) (N := 16) hx hb hU inlX7 hown hK hP mo1 hfo_136 rfl 9 (by decide) (hU _ wd_79) (fun _ h9 => h9) rfl dX7_copyFrom_107 ?_
  refine lv_iconst (v := 0) hx hb dX7_copyFrom_110 (by decide) ?_
  refine lv_aload_n hx hb dX7_copyFrom_111 rfl (lv_at hl 0 rfl) ?_
  refine tk_getP (D := (dC, dI)) (ci := 7) (v := .ref a_34) (C := RX7) (T := TX7) (N := 16) hx hb hU inlX7 hown hK hP mo0 hfo_148 rfl 9 (by decide) (hU _ wd_79) (fun _ h9 => h9) rfl dX7_copyFrom_112 ?_
  refine lv_iconst (v := 0) hx hb dX7_copyFrom_115 (by decide) ?_
  refine lv_aload_n hx hb dX7_copyFrom_116 rfl (lv_at hl 0 rfl) ?_
  refine tk_getP (D := (dC, dI)) (ci := 7) (v := .ref a_34) (C := RX7) (T := TX7) (N := 16) hx hb hU inlX7 hown hK hP mo0 hfo_148 rfl 9 (by decide) (hU _ wd_79) (fun _ h9 => h9) rfl dX7_copyFrom_117 ?_
  obtain ⟨g_150, hfo_149, hbg_150⟩ := un_514 (hG _ ma_34) ka_34
  refine tk_alenP (v := 36) hx hb hK hP 0 ma_34 hfo_149 rfl rfl dX7_copyFrom_120 ?_
  obtain ⟨g_152, hfo_151, hbg_152⟩ := un_555 (hG _ ma_11) ka_11
  refine tk_copyP hx hb (by rw [hml]; exact hl.1.symm) hown (hU _ wd_534) (hU _ wd_253) (hU _ wd_254) (hU _ wd_255) hK hP hD hS 0 ma_11 ma_34 hfo_151 hfo_149 rfl (by decide) (by decide) (by decide) (by decide) (by decide) (Nat.le_of_ble_eq_true rfl) (Nat.le_of_ble_eq_true rfl) dX7_copyFrom_121 (fun H locs hP hD hS => ?_)
  obtain ⟨g_153, eqg_153⟩ : ∃ y : Nat → Int32, y = va_cpy g_152 g_150 (Int32.toNatClampNeg 0) (Int32.toNatClampNeg 0) (Int32.toNatClampNeg 36) := ⟨_, rfl⟩
  rw [← eqg_153] at hP hD
  have hbg_153 : ∀ j, 0 ≤ (g_153 j).toInt ∧ (g_153 j).toInt ≤ 20 := by rw [eqg_153]; exact okI_cpy (fun j => by have := hbg_152 j; constructor <;> omega) hbg_150 _ _ _
  obtain ⟨f_155, ef_155⟩ : ∃ y : Nat → va_E, y = va_up f_135 a_34 (.inl (cI, 36, .inl g_153)) := ⟨_, rfl⟩
  have hP : va_P (dC, dI) vwCl (va_pl L f_155) H := by rw [ef_155]; exact hP
  have hD : va_D (fun q => q ∈ L) (va_pl L f_155) := by rw [ef_155]; exact hD
  have hG : GI (okc cI cL cZ cR cG cH L kd) kd L f_155 := by rw [ef_155]; exact hG.set a_34 (mk_514 ka_34 ⟨_, rfl, hbg_153⟩)
  have hfo_156 : f_155 o1 = .inr (7, [.ref a_2, .int v_3, .ref a_4, .ref a_5, .ref a_6, .ref a_7, .int v_8, .ref a_9, .ref a_10, .ref a_11, .ref a_12, .ref a_13, .int v_14, .ref a_15, .ref a_16, .ref a_17]) := by rw [ef_155, up_ne (kd_ne ka_34 ko1 (by decide))]; exact hfo_136
  have hfo_157 : f_155 a_2 = .inl (cI, 26, .inl g_19) := by rw [ef_155, up_ne (kd_ne ka_34 ka_2 (by decide))]; exact hfo_137
  have hfo_158 : f_155 a_5 = .inl (cI, 81, .inl g_21) := by rw [ef_155, up_ne (kd_ne ka_34 ka_5 (by decide))]; exact hfo_138
  have hfo_159 : f_155 a_13 = .inl (cR, 8, .inr (.inr (.inr (.inr g_23)))) := by rw [ef_155, up_ne (kd_ne ka_34 ka_13 (by decide))]; exact hfo_139
  have hfo_160 : f_155 a_36 = .inl (cR, 8, .inr (.inr (.inr (.inr g_42)))) := by rw [ef_155, up_ne (kd_ne ka_34 ka_36 (by decide))]; exact hfo_140
  have hfo_161 : f_155 a_25 = .inl (cI, 26, .inl g_45) := by rw [ef_155, up_ne (kd_ne ka_34 ka_25 (by decide))]; exact hfo_141
  have hfo_162 : f_155 a_4 = .inl (cI, 6, .inl g_67) := by rw [ef_155, up_ne (kd_ne ka_34 ka_4 (by decide))]; exact hfo_142
  have hfo_163 : f_155 a_27 = .inl (cI, 6, .inl g_68) := by rw [ef_155, up_ne (kd_ne ka_34 ka_27 (by decide))]; exact hfo_143
  have hfo_164 : f_155 a_28 = .inl (cI, 81, .inl g_82) := by rw [ef_155, up_ne (kd_ne ka_34 ka_28 (by decide))]; exact hfo_144
  have hfo_165 : f_155 a_6 = .inl (cI, 20, .inl g_98) := by rw [ef_155, up_ne (kd_ne ka_34 ka_6 (by decide))]; exact hfo_145
  have hfo_166 : f_155 a_7 = .inl (cI, 20, .inl g_117) := by rw [ef_155, up_ne (kd_ne ka_34 ka_7 (by decide))]; exact hfo_146
  have hfo_167 : f_155 a_30 = .inl (cI, 20, .inl g_118) := by rw [ef_155, up_ne (kd_ne ka_34 ka_30 (by decide))]; exact hfo_147
  have hfo_168 : f_155 o0 = .inr (7, [.ref a_25, .int v_3, .ref a_27, .ref a_28, .ref a_29, .ref a_30, .int v_8, .ref a_32, .ref a_33, .ref a_34, .ref a_35, .ref a_36, .int v_37, .ref a_38, .ref a_39, .ref a_40]) := by rw [ef_155, up_ne (kd_ne ka_34 ko0 (by decide))]; exact hfo_148
  have hfo_169 : f_155 a_11 = .inl (cI, 36, .inl g_152) := by rw [ef_155, up_ne (kd_ne ka_34 ka_11 (by decide))]; exact hfo_151
  have hfr0 : ∀ b, kd b ≠ 4 → kd b ≠ 5 → kd b ≠ 7 → kd b ≠ 9 → kd b ≠ 13 → kd b ≠ 500 → kd b ≠ 501 → kd b ≠ 502 → kd b ≠ 503 → kd b ≠ 504 → kd b ≠ 505 → kd b ≠ 506 → kd b ≠ 507 → kd b ≠ 508 → kd b ≠ 509 → kd b ≠ 510 → kd b ≠ 511 → kd b ≠ 514 → f_155 b = f b := fun b q4 q5 q7 q9 q13 q500 q501 q502 q503 q504 q505 q506 q507 q508 q509 q510 q511 q514 => (congrFun ef_155 b).trans ((up_ne (fun e9 => q514 (by rw [e9]; exact ka_34))).trans (hfr0 b q4 q5 q7 q9 q13 q500 q501 q502 q503 q504 q505 q506 q507 q508 q509 q510 q511 q514))
  have hrr7_0 : ∀ b, kd b = 7 → fldR (f_155 b) 0 = fldR (f b) 0 := fun b kb => (congrArg (fun x => fldR x 0) ((congrFun ef_155 b).trans (up_ne (kd_ne ka_34 kb (by decide))))).trans (hrr7_0 b kb)
  have hrr7_3 : ∀ b, kd b = 7 → fldR (f_155 b) 3 = fldR (f b) 3 := fun b kb => (congrArg (fun x => fldR x 3) ((congrFun ef_155 b).trans (up_ne (kd_ne ka_34 kb (by decide))))).trans (hrr7_3 b kb)
  have hrr7_11 : ∀ b, kd b = 7 → fldR (f_155 b) 11 = fldR (f b) 11 := fun b kb => (congrArg (fun x => fldR x 11) ((congrFun ef_155 b).trans (up_ne (kd_ne ka_34 kb (by decide))))).trans (hrr7_11 b kb)
  have hT0 : trel kd 107 549 551 556 104 f_155 o1 := by rw [ef_155]; exact hT0.up ka_34 (by decide) (by decide) (by decide) (by decide) (by decide)
  have hfo_170 : f_155 a_34 = .inl (cI, 36, .inl g_153) := by rw [ef_155]; exact up_self
  refine lv_aload_n hx hb dX7_copyFrom_124 rfl (lv_at hl 1 rfl) ?_
  refine tk_getP (D := (dC, dI)) (ci := 7) (v := .ref a_12) (C := RX7) (T := TX7) (N := 16) hx hb hU inlX7 hown hK hP mo1 hfo_156 rfl 10 (by decide) (hU _ wd_80) (fun _ h9 => h9) rfl dX7_copyFrom_125 ?_
  refine lv_iconst (v := 0) hx hb dX7_copyFrom_128 (by decide) ?_
  refine lv_aload_n hx hb dX7_copyFrom_129 rfl (lv_at hl 0 rfl) ?_
  refine tk_getP (D := (dC, dI)) (ci := 7) (v := .ref a_35) (C := RX7) (T := TX7) (N := 16) hx hb hU inlX7 hown hK hP mo0 hfo_168 rfl 10 (by decide) (hU _ wd_80) (fun _ h9 => h9) rfl dX7_copyFrom_130 ?_
  refine lv_iconst (v := 0) hx hb dX7_copyFrom_133 (by decide) ?_
  refine lv_aload_n hx hb dX7_copyFrom_134 rfl (lv_at hl 0 rfl) ?_
  refine tk_getP (D := (dC, dI)) (ci := 7) (v := .ref a_35) (C := RX7) (T := TX7) (N := 16) hx hb hU inlX7 hown hK hP mo0 hfo_168 rfl 10 (by decide) (hU _ wd_80) (fun _ h9 => h9) rfl dX7_copyFrom_135 ?_
  obtain ⟨g_172, hfo_171, hbg_172⟩ := un_514 (hG _ ma_35) ka_35
  refine tk_alenP (v := 36) hx hb hK hP 0 ma_35 hfo_171 rfl rfl dX7_copyFrom_138 ?_
  obtain ⟨g_174, hfo_173, hbg_174⟩ := un_555 (hG _ ma_12) ka_12
  refine tk_copyP hx hb (by rw [hml]; exact hl.1.symm) hown (hU _ wd_534) (hU _ wd_253) (hU _ wd_254) (hU _ wd_255) hK hP hD hS 0 ma_12 ma_35 hfo_173 hfo_171 rfl (by decide) (by decide) (by decide) (by decide) (by decide) (Nat.le_of_ble_eq_true rfl) (Nat.le_of_ble_eq_true rfl) dX7_copyFrom_139 (fun H locs hP hD hS => ?_)
  obtain ⟨g_175, eqg_175⟩ : ∃ y : Nat → Int32, y = va_cpy g_174 g_172 (Int32.toNatClampNeg 0) (Int32.toNatClampNeg 0) (Int32.toNatClampNeg 36) := ⟨_, rfl⟩
  rw [← eqg_175] at hP hD
  have hbg_175 : ∀ j, 0 ≤ (g_175 j).toInt ∧ (g_175 j).toInt ≤ 20 := by rw [eqg_175]; exact okI_cpy (fun j => by have := hbg_174 j; constructor <;> omega) hbg_172 _ _ _
  obtain ⟨f_177, ef_177⟩ : ∃ y : Nat → va_E, y = va_up f_155 a_35 (.inl (cI, 36, .inl g_175)) := ⟨_, rfl⟩
  have hP : va_P (dC, dI) vwCl (va_pl L f_177) H := by rw [ef_177]; exact hP
  have hD : va_D (fun q => q ∈ L) (va_pl L f_177) := by rw [ef_177]; exact hD
  have hG : GI (okc cI cL cZ cR cG cH L kd) kd L f_177 := by rw [ef_177]; exact hG.set a_35 (mk_514 ka_35 ⟨_, rfl, hbg_175⟩)
  have hfo_178 : f_177 o1 = .inr (7, [.ref a_2, .int v_3, .ref a_4, .ref a_5, .ref a_6, .ref a_7, .int v_8, .ref a_9, .ref a_10, .ref a_11, .ref a_12, .ref a_13, .int v_14, .ref a_15, .ref a_16, .ref a_17]) := by rw [ef_177, up_ne (kd_ne ka_35 ko1 (by decide))]; exact hfo_156
  have hfo_179 : f_177 a_2 = .inl (cI, 26, .inl g_19) := by rw [ef_177, up_ne (kd_ne ka_35 ka_2 (by decide))]; exact hfo_157
  have hfo_180 : f_177 a_5 = .inl (cI, 81, .inl g_21) := by rw [ef_177, up_ne (kd_ne ka_35 ka_5 (by decide))]; exact hfo_158
  have hfo_181 : f_177 a_13 = .inl (cR, 8, .inr (.inr (.inr (.inr g_23)))) := by rw [ef_177, up_ne (kd_ne ka_35 ka_13 (by decide))]; exact hfo_159
  have hfo_182 : f_177 a_36 = .inl (cR, 8, .inr (.inr (.inr (.inr g_42)))) := by rw [ef_177, up_ne (kd_ne ka_35 ka_36 (by decide))]; exact hfo_160
  have hfo_183 : f_177 a_25 = .inl (cI, 26, .inl g_45) := by rw [ef_177, up_ne (kd_ne ka_35 ka_25 (by decide))]; exact hfo_161
  have hfo_184 : f_177 a_4 = .inl (cI, 6, .inl g_67) := by rw [ef_177, up_ne (kd_ne ka_35 ka_4 (by decide))]; exact hfo_162
  have hfo_185 : f_177 a_27 = .inl (cI, 6, .inl g_68) := by rw [ef_177, up_ne (kd_ne ka_35 ka_27 (by decide))]; exact hfo_163
  have hfo_186 : f_177 a_28 = .inl (cI, 81, .inl g_82) := by rw [ef_177, up_ne (kd_ne ka_35 ka_28 (by decide))]; exact hfo_164
  have hfo_187 : f_177 a_6 = .inl (cI, 20, .inl g_98) := by rw [ef_177, up_ne (kd_ne ka_35 ka_6 (by decide))]; exact hfo_165
  have hfo_188 : f_177 a_7 = .inl (cI, 20, .inl g_117) := by rw [ef_177, up_ne (kd_ne ka_35 ka_7 (by decide))]; exact hfo_166
  have hfo_189 : f_177 a_30 = .inl (cI, 20, .inl g_118) := by rw [ef_177, up_ne (kd_ne ka_35 ka_30 (by decide))]; exact hfo_167
  have hfo_190 : f_177 o0 = .inr (7, [.ref a_25, .int v_3, .ref a_27, .ref a_28, .ref a_29, .ref a_30, .int v_8, .ref a_32, .ref a_33, .ref a_34, .ref a_35, .ref a_36, .int v_37, .ref a_38, .ref a_39, .ref a_40]) := by rw [ef_177, up_ne (kd_ne ka_35 ko0 (by decide))]; exact hfo_168
  have hfo_191 : f_177 a_11 = .inl (cI, 36, .inl g_152) := by rw [ef_177, up_ne (kd_ne ka_35 ka_11 (by decide))]; exact hfo_169
  have hfo_192 : f_177 a_12 = .inl (cI, 36, .inl g_174) := by rw [ef_177, up_ne (kd_ne ka_35 ka_12 (by decide))]; exact hfo_173
  have hfr0 : ∀ b, kd b ≠ 4 → kd b ≠ 5 → kd b ≠ 7 → kd b ≠ 9 → kd b ≠ 13 → kd b ≠ 500 → kd b ≠ 501 → kd b ≠ 502 → kd b ≠ 503 → kd b ≠ 504 → kd b ≠ 505 → kd b ≠ 506 → kd b ≠ 507 → kd b ≠ 508 → kd b ≠ 509 → kd b ≠ 510 → kd b ≠ 511 → kd b ≠ 514 → f_177 b = f b := fun b q4 q5 q7 q9 q13 q500 q501 q502 q503 q504 q505 q506 q507 q508 q509 q510 q511 q514 => (congrFun ef_177 b).trans ((up_ne (fun e9 => q514 (by rw [e9]; exact ka_35))).trans (hfr0 b q4 q5 q7 q9 q13 q500 q501 q502 q503 q504 q505 q506 q507 q508 q509 q510 q511 q514))
  have hrr7_0 : ∀ b, kd b = 7 → fldR (f_177 b) 0 = fldR (f b) 0 := fun b kb => (congrArg (fun x => fldR x 0) ((congrFun ef_177 b).trans (up_ne (kd_ne ka_35 kb (by decide))))).trans (hrr7_0 b kb)
  have hrr7_3 : ∀ b, kd b = 7 → fldR (f_177 b) 3 = fldR (f b) 3 := fun b kb => (congrArg (fun x => fldR x 3) ((congrFun ef_177 b).trans (up_ne (kd_ne ka_35 kb (by decide))))).trans (hrr7_3 b kb)
  have hrr7_11 : ∀ b, kd b = 7 → fldR (f_177 b) 11 = fldR (f b) 11 := fun b kb => (congrArg (fun x => fldR x 11) ((congrFun ef_177 b).trans (up_ne (kd_ne ka_35 kb (by decide))))).trans (hrr7_11 b kb)
  have hT0 : trel kd 107 549 551 556 104 f_177 o1 := by rw [ef_177]; exact hT0.up ka_35 (by decide) (by decide) (by decide) (by decide) (by decide)
  have hfo_193 : f_177 a_35 = .inl (cI, 36, .inl g_175) := by rw [ef_177]; exact up_self
  refine lv_aload_n hx hb dX7_copyFrom_142 rfl (lv_at hl 0 rfl) ?_
  refine lv_aload_n hx hb dX7_copyFrom_143 rfl (lv_at hl 1 rfl) ?_
  refine tk_getP (D := (dC, dI)) (ci := 7) (v := .int v_14) (C := RX7) (T := TX7) (N := 16) hx hb hU inlX7 hown hK hP mo1 hfo_178 rfl 12 (by decide) (hU _ wd_264) (fun _ h9 => h9) rfl dX7_copyFrom_144 ?_
  refine tk_putP (D := (dC, dI)) (ci := 7) (v := .int v_14) (ty := .int) (C := RX7) (T := TX7) (N := 16) hx hb hU inlX7 tyX7 tyX7_ok nmX7 hown hK hP hD hS mo0 hfo_190 rfl 12 (by decide) (hU _ wd_264) (fun _ h9 => h9) rfl (by decide +kernel) rfl rfl (Nat.le_of_ble_eq_true rfl) dX7_copyFrom_147 (fun H locs hP hD hS => ?_)
  obtain ⟨f_195, ef_195⟩ : ∃ y : Nat → va_E, y = va_up f_177 o0 (.inr (7, [.ref a_25, .int v_3, .ref a_27, .ref a_28, .ref a_29, .ref a_30, .int v_8, .ref a_32, .ref a_33, .ref a_34, .ref a_35, .ref a_36, .int v_14, .ref a_38, .ref a_39, .ref a_40])) := ⟨_, rfl⟩
  have hP : va_P (dC, dI) vwCl (va_pl L f_195) H := by rw [ef_195]; exact hP
  have hD : va_D (fun q => q ∈ L) (va_pl L f_195) := by rw [ef_195]; exact hD
  have hG : GI (okc cI cL cZ cR cG cH L kd) kd L f_195 := by rw [ef_195]; exact hG.set o0 (mk_7 ko0 ⟨a_25, v_3, a_27, a_28, a_29, a_30, v_8, a_32, a_33, a_34, a_35, a_36, v_14, a_38, a_39, a_40, rfl, ⟨ma_25, ka_25⟩, (by constructor <;> omega), ⟨ma_27, ka_27⟩, ⟨ma_28, ka_28⟩, ⟨ma_29, ka_29⟩, ⟨ma_30, ka_30⟩, (by constructor <;> omega), ⟨ma_32, ka_32⟩, ⟨ma_33, ka_33⟩, ⟨ma_34, ka_34⟩, ⟨ma_35, ka_35⟩, ⟨ma_36, ka_36⟩, (by constructor <;> omega), ⟨ma_38, ka_38⟩, ⟨ma_39, ka_39⟩, ⟨ma_40, ka_40⟩⟩)
  have hfo_196 : f_195 o1 = .inr (7, [.ref a_2, .int v_3, .ref a_4, .ref a_5, .ref a_6, .ref a_7, .int v_8, .ref a_9, .ref a_10, .ref a_11, .ref a_12, .ref a_13, .int v_14, .ref a_15, .ref a_16, .ref a_17]) := by rw [ef_195, up_ne (kd_ne ko0 ko1 (by decide))]; exact hfo_178
  have hfo_197 : f_195 a_2 = .inl (cI, 26, .inl g_19) := by rw [ef_195, up_ne (kd_ne ko0 ka_2 (by decide))]; exact hfo_179
  have hfo_198 : f_195 a_5 = .inl (cI, 81, .inl g_21) := by rw [ef_195, up_ne (kd_ne ko0 ka_5 (by decide))]; exact hfo_180
  have hfo_199 : f_195 a_13 = .inl (cR, 8, .inr (.inr (.inr (.inr g_23)))) := by rw [ef_195, up_ne (kd_ne ko0 ka_13 (by decide))]; exact hfo_181
  have hfo_200 : f_195 a_36 = .inl (cR, 8, .inr (.inr (.inr (.inr g_42)))) := by rw [ef_195, up_ne (kd_ne ko0 ka_36 (by decide))]; exact hfo_182
  have hfo_201 : f_195 a_25 = .inl (cI, 26, .inl g_45) := by rw [ef_195, up_ne (kd_ne ko0 ka_25 (by decide))]; exact hfo_183
  have hfo_202 : f_195 a_4 = .inl (cI, 6, .inl g_67) := by rw [ef_195, up_ne (kd_ne ko0 ka_4 (by decide))]; exact hfo_184
  have hfo_203 : f_195 a_27 = .inl (cI, 6, .inl g_68) := by rw [ef_195, up_ne (kd_ne ko0 ka_27 (by decide))]; exact hfo_185
  have hfo_204 : f_195 a_28 = .inl (cI, 81, .inl g_82) := by rw [ef_195, up_ne (kd_ne ko0 ka_28 (by decide))]; exact hfo_186
  have hfo_205 : f_195 a_6 = .inl (cI, 20, .inl g_98) := by rw [ef_195, up_ne (kd_ne ko0 ka_6 (by decide))]; exact hfo_187
  have hfo_206 : f_195 a_7 = .inl (cI, 20, .inl g_117) := by rw [ef_195, up_ne (kd_ne ko0 ka_7 (by decide))]; exact hfo_188
  have hfo_207 : f_195 a_30 = .inl (cI, 20, .inl g_118) := by rw [ef_195, up_ne (kd_ne ko0 ka_30 (by decide))]; exact hfo_189
  have hfo_208 : f_195 a_11 = .inl (cI, 36, .inl g_152) := by rw [ef_195, up_ne (kd_ne ko0 ka_11 (by decide))]; exact hfo_191
  have hfo_209 : f_195 a_12 = .inl (cI, 36, .inl g_174) := by rw [ef_195, up_ne (kd_ne ko0 ka_12 (by decide))]; exact hfo_192
  have hfo_210 : f_195 a_35 = .inl (cI, 36, .inl g_175) := by rw [ef_195, up_ne (kd_ne ko0 ka_35 (by decide))]; exact hfo_193
  have hfr0 : ∀ b, kd b ≠ 4 → kd b ≠ 5 → kd b ≠ 7 → kd b ≠ 9 → kd b ≠ 13 → kd b ≠ 500 → kd b ≠ 501 → kd b ≠ 502 → kd b ≠ 503 → kd b ≠ 504 → kd b ≠ 505 → kd b ≠ 506 → kd b ≠ 507 → kd b ≠ 508 → kd b ≠ 509 → kd b ≠ 510 → kd b ≠ 511 → kd b ≠ 514 → f_195 b = f b := fun b q4 q5 q7 q9 q13 q500 q501 q502 q503 q504 q505 q506 q507 q508 q509 q510 q511 q514 => (congrFun ef_195 b).trans ((up_ne (fun e9 => q7 (by rw [e9]; exact ko0))).trans (hfr0 b q4 q5 q7 q9 q13 q500 q501 q502 q503 q504 q505 q506 q507 q508 q509 q510 q511 q514))
  have hrr7_0 : ∀ b, kd b = 7 → fldR (f_195 b) 0 = fldR (f b) 0 := fun b kb => ((congrArg (fun x => fldR x 0) (congrFun ef_195 b)).trans (fr_up (by rw [hfo_190]; rfl) b)).trans (hrr7_0 b kb)
  have hrr7_3 : ∀ b, kd b = 7 → fldR (f_195 b) 3 = fldR (f b) 3 := fun b kb => ((congrArg (fun x => fldR x 3) (congrFun ef_195 b)).trans (fr_up (by rw [hfo_190]; rfl) b)).trans (hrr7_3 b kb)
  have hrr7_11 : ∀ b, kd b = 7 → fldR (f_195 b) 11 = fldR (f b) 11 := fun b kb => ((congrArg (fun x => fldR x 11) (congrFun ef_195 b)).trans (fr_up (by rw [hfo_190]; rfl) b)).trans (hrr7_11 b kb)
  have hT0 : trel kd 107 549 551 556 104 f_195 o1 := by rw [ef_195]; exact hT0.up ko0 (by decide) (by decide) (by decide) (by decide) (by decide)
  have hfo_211 : f_195 o0 = .inr (7, [.ref a_25, .int v_3, .ref a_27, .ref a_28, .ref a_29, .ref a_30, .int v_8, .ref a_32, .ref a_33, .ref a_34, .ref a_35, .ref a_36, .int v_14, .ref a_38, .ref a_39, .ref a_40]) := by rw [ef_195]; exact up_self
  refine lv_iconst (v := 0) hx hb dX7_copyFrom_150 (by decide) ?_
  refine lv_istore_n (lv' := [(2, .int 0), (0, .ref o0), (1, .ref o1)]) hx hb dX7_copyFrom_151 rfl hl (by decide) rfl (fun ls hl => ?_)
  have hloop_272 : ∀ (n : Nat), ∀ (y_273 : Int32), (0 ≤ y_273.toInt ∧ y_273.toInt ≤ 8) → ∀ (f_275 : Nat → va_E), GI (okc cI cL cZ cR cG cH L kd) kd L f_275 → ∀ (H : Heap) (locs : List Loc), va_P (dC, dI) vwCl (va_pl L f_275) H → va_S (fun q => q ∈ L) s.heap H locs → va_D (fun q => q ∈ L) (va_pl L f_275) → (∀ b, kd b ≠ 4 → kd b ≠ 5 → kd b ≠ 7 → kd b ≠ 9 → kd b ≠ 13 → kd b ≠ 500 → kd b ≠ 501 → kd b ≠ 502 → kd b ≠ 503 → kd b ≠ 504 → kd b ≠ 505 → kd b ≠ 506 → kd b ≠ 507 → kd b ≠ 508 → kd b ≠ 509 → kd b ≠ 510 → kd b ≠ 511 → kd b ≠ 514 → f_275 b = f b) → (∀ b, kd b = 7 → fldR (f_275 b) 0 = fldR (f b) 0) → (∀ b, kd b = 7 → fldR (f_275 b) 3 = fldR (f b) 3) → (∀ b, kd b = 7 → fldR (f_275 b) 11 = fldR (f b) 11) → (f_275 o1 = .inr (7, [.ref a_2, .int v_3, .ref a_4, .ref a_5, .ref a_6, .ref a_7, .int v_8, .ref a_9, .ref a_10, .ref a_11, .ref a_12, .ref a_13, .int v_14, .ref a_15, .ref a_16, .ref a_17])) → (f_275 a_2 = .inl (cI, 26, .inl g_19)) → (f_275 a_5 = .inl (cI, 81, .inl g_21)) → (f_275 a_13 = .inl (cR, 8, .inr (.inr (.inr (.inr g_23))))) → (f_275 a_36 = .inl (cR, 8, .inr (.inr (.inr (.inr g_42))))) → (f_275 a_25 = .inl (cI, 26, .inl g_45)) → (f_275 a_4 = .inl (cI, 6, .inl g_67)) → (f_275 a_27 = .inl (cI, 6, .inl g_68)) → (f_275 a_28 = .inl (cI, 81, .inl g_82)) → (f_275 a_6 = .inl (cI, 20, .inl g_98)) → (f_275 a_7 = .inl (cI, 20, .inl g_117)) → (f_275 a_30 = .inl (cI, 20, .inl g_118)) → (f_275 a_11 = .inl (cI, 36, .inl g_152)) → (f_275 a_12 = .inl (cI, 36, .inl g_174)) → (f_275 a_35 = .inl (cI, 36, .inl g_175)) → (f_275 o0 = .inr (7, [.ref a_25, .int v_3, .ref a_27, .ref a_28, .ref a_29, .ref a_30, .int v_8, .ref a_32, .ref a_33, .ref a_34, .ref a_35, .ref a_36, .int v_14, .ref a_38, .ref a_39, .ref a_40])) → trel kd 107 549 551 556 104 f_275 o1 → (∀ k9 : Nat, (k9 : Int) < y_273.toInt → ∃ b w, g_42 k9 = some b ∧ kd b = 4 ∧ fldI (f_275 b) 1 = some w ∧ w.toInt ≤ v_3.toInt) → 8 - y_273.toInt < (n : Int) → ∀ (ls : Array Slot), lv_has ls 3 [(2, .int y_273), (0, .ref o0), (1, .ref o1)] → W p l e (headSpec (wU yX7_copyFrom cX7_copyFrom 3 none) { frames := 3, cells := 0, slots := 0, locals := 82 }).room s m [.ref o0, .ref o1].toArray below meth c H locs 0 0 (MQ below (va_Qv (fun (f9 : Nat → va_E) => GI (okc cI cL cZ cR cG cH L kd) kd L f9 ∧ (∀ b, kd b ≠ 4 → kd b ≠ 5 → kd b ≠ 7 → kd b ≠ 9 → kd b ≠ 13 → kd b ≠ 500 → kd b ≠ 501 → kd b ≠ 502 → kd b ≠ 503 → kd b ≠ 504 → kd b ≠ 505 → kd b ≠ 506 → kd b ≠ 507 → kd b ≠ 508 → kd b ≠ 509 → kd b ≠ 510 → kd b ≠ 511 → kd b ≠ 514 → f9 b = f b) ∧ (∀ b, kd b = 7 → fldR (f9 b) 0 = fldR (f b) 0) ∧ (∀ b, kd b = 7 → fldR (f9 b) 3 = fldR (f b) 3) ∧ (∀ b, kd b = 7 → fldR (f9 b) 11 = fldR (f b) 11) ∧ (∀ w9, fldI (f9 o1) 12 = some w9 → fldI (f9 o0) 12 = some w9) ∧ (trel kd 107 549 551 556 104 f9 o1) ∧ (trel kd 7 508 510 515 4 f9 o0)) (qP (dC, dI) cI cL cZ cR cG cH L) (fun q => q ∈ L)) [.ref o0, .ref o1].toArray s 0 0 (fun q => q ∈ L)) (F0 m 152 ls []) := by
    intro n
    induction n with
    | zero => intro y_273 by_273 f_275 hG H locs hP hS hD hfr0 hrr7_0 hrr7_3 hrr7_11 hfo_276 hfo_277 hfo_278 hfo_279 hfo_280 hfo_281 hfo_282 hfo_283 hfo_284 hfo_285 hfo_286 hfo_287 hfo_288 hfo_289 hfo_290 hfo_291 hT0 hxi hmuhloop_272 ls hl; exfalso; omega
    | succ n ih_hloop_272 =>
      intro y_273 by_273 f_275 hG H locs hP hS hD hfr0 hrr7_0 hrr7_3 hrr7_11 hfo_276 hfo_277 hfo_278 hfo_279 hfo_280 hfo_281 hfo_282 hfo_283 hfo_284 hfo_285 hfo_286 hfo_287 hfo_288 hfo_289 hfo_290 hfo_291 hT0 hxi hmuhloop_272 ls hl
      refine lv_iload_n hx hb dX7_copyFrom_152 rfl (lv_at hl 0 rfl) ?_
      refine lv_aload_n hx hb dX7_copyFrom_153 rfl (lv_at hl 1 rfl) ?_
      refine tk_getP (D := (dC, dI)) (ci := 7) (v := .int v_14) (C := RX7) (T := TX7) (N := 16) hx hb hU inlX7 hown hK hP mo0 hfo_291 rfl 12 (by decide) (hU _ wd_264) (fun _ h9 => h9) rfl dX7_copyFrom_154 ?_
      refine lv_icmp_ge (tgt := 181) hx hb dX7_copyFrom_157 (by decide) (fun c_292 => ?_) (fun c_292 => ?_)
      · skip
        rw [Int32.le_iff_toInt_le] at c_292
        have hT9 : trel kd 7 508 510 515 4 f_275 o0 := ⟨v_3, v_8, v_14, a_25, a_28, a_36, g_45, g_82, g_42, ⟨ko0, ka_25, ka_28, ka_36⟩, (by rw [hfo_291]; exact ⟨rfl, rfl, rfl, rfl, rfl, rfl⟩), ⟨by rw [hfo_281]; rfl, by rw [hfo_284]; rfl, by rw [hfo_280]; rfl⟩, tq4, (fun j hj => by rw [cp26 eqg_45 (by decide) (by decide) (by decide) hj]; exact tq5 j hj), (fun i h1 h2 => by rw [cp26 (n := 81) eqg_82 (by decide) (by decide) (by decide) (by omega)]; exact tq6 i h1 h2), (fun k9 hk9 => hxi k9 (by omega))⟩
        refine lv_aload_n hx hb dX7_copyFrom_181 rfl (lv_at hl 1 rfl) ?_
        refine tk_getP (D := (dC, dI)) (ci := 7) (v := .ref a_38) (C := RX7) (T := TX7) (N := 16) hx hb hU inlX7 hown hK hP mo0 hfo_291 rfl 13 (by decide) (hU _ wd_86) (fun _ h9 => h9) rfl dX7_copyFrom_182 ?_
        refine lv_aload_n hx hb dX7_copyFrom_185 rfl (lv_at hl 2 rfl) ?_
        refine tk_getP (D := (dC, dI)) (ci := 7) (v := .ref a_15) (C := RX7) (T := TX7) (N := 16) hx hb hU inlX7 hown hK hP mo1 hfo_276 rfl 13 (by decide) (hU _ wd_86) (fun _ h9 => h9) rfl dX7_copyFrom_186 ?_
        obtain ⟨a_294, a_295, v_296, hfo_293, ⟨ma_294, ka_294⟩, ⟨ma_295, ka_295⟩, bv_296⟩ := un_9 (hG _ ma_38) ka_38
        refine tk_VvP (As := [.ref a_15]) (rest := []) (n := 1) hx hb hml hown hU hN hZ (s_X9_copyFrom_k9_k109 l (dC, dI) cI cL cZ cR cG cH Z kd L f_275 hG a_38 ma_38 ka_38 a_15 ma_15 ka_15) wd_544 wd_545 wd_546 wd_85 wd_547 (by decide +kernel) ⟨Nat.le_of_ble_eq_true rfl, Nat.le_of_ble_eq_true rfl⟩ hK hP hD hS ma_38 hfo_293 9 rfl rfl rfl hl.1 rfl (Nat.le_of_ble_eq_true rfl) dX7_copyFrom_189 ⟨Nat.le_of_ble_eq_true rfl, Nat.le_of_ble_eq_true rfl⟩ (fun f_298 H locs hw hP hD hS => ?_)
        obtain ⟨hG, hkc_299⟩ := hw
        have hfo_301 : f_298 o1 = .inr (7, [.ref a_2, .int v_3, .ref a_4, .ref a_5, .ref a_6, .ref a_7, .int v_8, .ref a_9, .ref a_10, .ref a_11, .ref a_12, .ref a_13, .int v_14, .ref a_15, .ref a_16, .ref a_17]) := by rw [hkc_299 o1 (by rw [ko1]; decide) (by rw [ko1]; decide) (by rw [ko1]; decide)]; exact hfo_276
        have hfo_302 : f_298 a_2 = .inl (cI, 26, .inl g_19) := by rw [hkc_299 a_2 (by rw [ka_2]; decide) (by rw [ka_2]; decide) (by rw [ka_2]; decide)]; exact hfo_277
        have hfo_303 : f_298 a_5 = .inl (cI, 81, .inl g_21) := by rw [hkc_299 a_5 (by rw [ka_5]; decide) (by rw [ka_5]; decide) (by rw [ka_5]; decide)]; exact hfo_278
        have hfo_304 : f_298 a_13 = .inl (cR, 8, .inr (.inr (.inr (.inr g_23)))) := by rw [hkc_299 a_13 (by rw [ka_13]; decide) (by rw [ka_13]; decide) (by rw [ka_13]; decide)]; exact hfo_279
        have hfo_305 : f_298 a_36 = .inl (cR, 8, .inr (.inr (.inr (.inr g_42)))) := by rw [hkc_299 a_36 (by rw [ka_36]; decide) (by rw [ka_36]; decide) (by rw [ka_36]; decide)]; exact hfo_280
        have hfo_306 : f_298 a_25 = .inl (cI, 26, .inl g_45) := by rw [hkc_299 a_25 (by rw [ka_25]; decide) (by rw [ka_25]; decide) (by rw [ka_25]; decide)]; exact hfo_281
        have hfo_307 : f_298 a_4 = .inl (cI, 6, .inl g_67) := by rw [hkc_299 a_4 (by rw [ka_4]; decide) (by rw [ka_4]; decide) (by rw [ka_4]; decide)]; exact hfo_282
        have hfo_308 : f_298 a_27 = .inl (cI, 6, .inl g_68) := by rw [hkc_299 a_27 (by rw [ka_27]; decide) (by rw [ka_27]; decide) (by rw [ka_27]; decide)]; exact hfo_283
        have hfo_309 : f_298 a_28 = .inl (cI, 81, .inl g_82) := by rw [hkc_299 a_28 (by rw [ka_28]; decide) (by rw [ka_28]; decide) (by rw [ka_28]; decide)]; exact hfo_284
        have hfo_310 : f_298 a_6 = .inl (cI, 20, .inl g_98) := by rw [hkc_299 a_6 (by rw [ka_6]; decide) (by rw [ka_6]; decide) (by rw [ka_6]; decide)]; exact hfo_285
        have hfo_311 : f_298 a_7 = .inl (cI, 20, .inl g_117) := by rw [hkc_299 a_7 (by rw [ka_7]; decide) (by rw [ka_7]; decide) (by rw [ka_7]; decide)]; exact hfo_286
        have hfo_312 : f_298 a_30 = .inl (cI, 20, .inl g_118) := by rw [hkc_299 a_30 (by rw [ka_30]; decide) (by rw [ka_30]; decide) (by rw [ka_30]; decide)]; exact hfo_287
        have hfo_313 : f_298 a_11 = .inl (cI, 36, .inl g_152) := by rw [hkc_299 a_11 (by rw [ka_11]; decide) (by rw [ka_11]; decide) (by rw [ka_11]; decide)]; exact hfo_288
        have hfo_314 : f_298 a_12 = .inl (cI, 36, .inl g_174) := by rw [hkc_299 a_12 (by rw [ka_12]; decide) (by rw [ka_12]; decide) (by rw [ka_12]; decide)]; exact hfo_289
        have hfo_315 : f_298 a_35 = .inl (cI, 36, .inl g_175) := by rw [hkc_299 a_35 (by rw [ka_35]; decide) (by rw [ka_35]; decide) (by rw [ka_35]; decide)]; exact hfo_290
        have hfo_316 : f_298 o0 = .inr (7, [.ref a_25, .int v_3, .ref a_27, .ref a_28, .ref a_29, .ref a_30, .int v_8, .ref a_32, .ref a_33, .ref a_34, .ref a_35, .ref a_36, .int v_14, .ref a_38, .ref a_39, .ref a_40]) := by rw [hkc_299 o0 (by rw [ko0]; decide) (by rw [ko0]; decide) (by rw [ko0]; decide)]; exact hfo_291
        have hfr0 : ∀ b, kd b ≠ 4 → kd b ≠ 5 → kd b ≠ 7 → kd b ≠ 9 → kd b ≠ 13 → kd b ≠ 500 → kd b ≠ 501 → kd b ≠ 502 → kd b ≠ 503 → kd b ≠ 504 → kd b ≠ 505 → kd b ≠ 506 → kd b ≠ 507 → kd b ≠ 508 → kd b ≠ 509 → kd b ≠ 510 → kd b ≠ 511 → kd b ≠ 514 → f_298 b = f b := fun b q4 q5 q7 q9 q13 q500 q501 q502 q503 q504 q505 q506 q507 q508 q509 q510 q511 q514 => (hkc_299 b q9 q504 q505).trans (hfr0 b q4 q5 q7 q9 q13 q500 q501 q502 q503 q504 q505 q506 q507 q508 q509 q510 q511 q514)
        have hrr7_0 : ∀ b, kd b = 7 → fldR (f_298 b) 0 = fldR (f b) 0 := fun b kb => (congrArg (fun x => fldR x 0) (hkc_299 b (by rw [kb]; decide) (by rw [kb]; decide) (by rw [kb]; decide))).trans (hrr7_0 b kb)
        have hrr7_3 : ∀ b, kd b = 7 → fldR (f_298 b) 3 = fldR (f b) 3 := fun b kb => (congrArg (fun x => fldR x 3) (hkc_299 b (by rw [kb]; decide) (by rw [kb]; decide) (by rw [kb]; decide))).trans (hrr7_3 b kb)
        have hrr7_11 : ∀ b, kd b = 7 → fldR (f_298 b) 11 = fldR (f b) 11 := fun b kb => (congrArg (fun x => fldR x 11) (hkc_299 b (by rw [kb]; decide) (by rw [kb]; decide) (by rw [kb]; decide))).trans (hrr7_11 b kb)
        have hT0 : trel kd 107 549 551 556 104 f_298 o1 := hT0.keep (fun b q => hkc_299 b (by rw [q]; decide) (by rw [q]; decide) (by rw [q]; decide)) (fun b q => hkc_299 b (by rw [q]; decide) (by rw [q]; decide) (by rw [q]; decide)) (fun b q => hkc_299 b (by rw [q]; decide) (by rw [q]; decide) (by rw [q]; decide)) (fun b q => hkc_299 b (by rw [q]; decide) (by rw [q]; decide) (by rw [q]; decide)) (fun b q => congrArg (fun x => fldI x 1) (hkc_299 b (by rw [q]; decide) (by rw [q]; decide) (by rw [q]; decide)))
        have hT9 : trel kd 7 508 510 515 4 f_298 o0 := hT9.keep (fun b q => hkc_299 b (by rw [q]; decide) (by rw [q]; decide) (by rw [q]; decide)) (fun b q => hkc_299 b (by rw [q]; decide) (by rw [q]; decide) (by rw [q]; decide)) (fun b q => hkc_299 b (by rw [q]; decide) (by rw [q]; decide) (by rw [q]; decide)) (fun b q => hkc_299 b (by rw [q]; decide) (by rw [q]; decide) (by rw [q]; decide)) (fun b q => congrArg (fun x => fldI x 1) (hkc_299 b (by rw [q]; decide) (by rw [q]; decide) (by rw [q]; decide)))
        refine lv_aload_n hx hb dX7_copyFrom_192 rfl (lv_at hl 1 rfl) ?_
        refine tk_getP (D := (dC, dI)) (ci := 7) (v := .ref a_39) (C := RX7) (T := TX7) (N := 16) hx hb hU inlX7 hown hK hP mo0 hfo_316 rfl 14 (by decide) (hU _ wd_87) (fun _ h9 => h9) rfl dX7_copyFrom_193 ?_
        refine lv_aload_n hx hb dX7_copyFrom_196 rfl (lv_at hl 2 rfl) ?_
        refine tk_getP (D := (dC, dI)) (ci := 7) (v := .ref a_16) (C := RX7) (T := TX7) (N := 16) hx hb hU inlX7 hown hK hP mo1 hfo_301 rfl 14 (by decide) (hU _ wd_87) (fun _ h9 => h9) rfl dX7_copyFrom_197 ?_
        obtain ⟨a_318, a_319, v_320, hfo_317, ⟨ma_318, ka_318⟩, ⟨ma_319, ka_319⟩, bv_320⟩ := un_13 (hG _ ma_39) ka_39
        refine tk_VvP (As := [.ref a_16]) (rest := []) (n := 1) hx hb hml hown hU hN hZ (s_X9_copyFrom_k13_k113 l (dC, dI) cI cL cZ cR cG cH Z kd L f_298 hG a_39 ma_39 ka_39 a_16 ma_16 ka_16) wd_544 wd_545 wd_546 wd_85 wd_547 (by decide +kernel) ⟨Nat.le_of_ble_eq_true rfl, Nat.le_of_ble_eq_true rfl⟩ hK hP hD hS ma_39 hfo_317 9 rfl rfl rfl hl.1 rfl (Nat.le_of_ble_eq_true rfl) dX7_copyFrom_200 ⟨Nat.le_of_ble_eq_true rfl, Nat.le_of_ble_eq_true rfl⟩ (fun f_322 H locs hw hP hD hS => ?_)
        obtain ⟨hG, hkc_323⟩ := hw
        have hfo_325 : f_322 o1 = .inr (7, [.ref a_2, .int v_3, .ref a_4, .ref a_5, .ref a_6, .ref a_7, .int v_8, .ref a_9, .ref a_10, .ref a_11, .ref a_12, .ref a_13, .int v_14, .ref a_15, .ref a_16, .ref a_17]) := by rw [hkc_323 o1 (by rw [ko1]; decide) (by rw [ko1]; decide) (by rw [ko1]; decide)]; exact hfo_301
        have hfo_326 : f_322 a_2 = .inl (cI, 26, .inl g_19) := by rw [hkc_323 a_2 (by rw [ka_2]; decide) (by rw [ka_2]; decide) (by rw [ka_2]; decide)]; exact hfo_302
        have hfo_327 : f_322 a_5 = .inl (cI, 81, .inl g_21) := by rw [hkc_323 a_5 (by rw [ka_5]; decide) (by rw [ka_5]; decide) (by rw [ka_5]; decide)]; exact hfo_303
        have hfo_328 : f_322 a_13 = .inl (cR, 8, .inr (.inr (.inr (.inr g_23)))) := by rw [hkc_323 a_13 (by rw [ka_13]; decide) (by rw [ka_13]; decide) (by rw [ka_13]; decide)]; exact hfo_304
        have hfo_329 : f_322 a_36 = .inl (cR, 8, .inr (.inr (.inr (.inr g_42)))) := by rw [hkc_323 a_36 (by rw [ka_36]; decide) (by rw [ka_36]; decide) (by rw [ka_36]; decide)]; exact hfo_305
        have hfo_330 : f_322 a_25 = .inl (cI, 26, .inl g_45) := by rw [hkc_323 a_25 (by rw [ka_25]; decide) (by rw [ka_25]; decide) (by rw [ka_25]; decide)]; exact hfo_306
        have hfo_331 : f_322 a_4 = .inl (cI, 6, .inl g_67) := by rw [hkc_323 a_4 (by rw [ka_4]; decide) (by rw [ka_4]; decide) (by rw [ka_4]; decide)]; exact hfo_307
        have hfo_332 : f_322 a_27 = .inl (cI, 6, .inl g_68) := by rw [hkc_323 a_27 (by rw [ka_27]; decide) (by rw [ka_27]; decide) (by rw [ka_27]; decide)]; exact hfo_308
        have hfo_333 : f_322 a_28 = .inl (cI, 81, .inl g_82) := by rw [hkc_323 a_28 (by rw [ka_28]; decide) (by rw [ka_28]; decide) (by rw [ka_28]; decide)]; exact hfo_309
        have hfo_334 : f_322 a_6 = .inl (cI, 20, .inl g_98) := by rw [hkc_323 a_6 (by rw [ka_6]; decide) (by rw [ka_6]; decide) (by rw [ka_6]; decide)]; exact hfo_310
        have hfo_335 : f_322 a_7 = .inl (cI, 20, .inl g_117) := by rw [hkc_323 a_7 (by rw [ka_7]; decide) (by rw [ka_7]; decide) (by rw [ka_7]; decide)]; exact hfo_311
        have hfo_336 : f_322 a_30 = .inl (cI, 20, .inl g_118) := by rw [hkc_323 a_30 (by rw [ka_30]; decide) (by rw [ka_30]; decide) (by rw [ka_30]; decide)]; exact hfo_312
        have hfo_337 : f_322 a_11 = .inl (cI, 36, .inl g_152) := by rw [hkc_323 a_11 (by rw [ka_11]; decide) (by rw [ka_11]; decide) (by rw [ka_11]; decide)]; exact hfo_313
        have hfo_338 : f_322 a_12 = .inl (cI, 36, .inl g_174) := by rw [hkc_323 a_12 (by rw [ka_12]; decide) (by rw [ka_12]; decide) (by rw [ka_12]; decide)]; exact hfo_314
        have hfo_339 : f_322 a_35 = .inl (cI, 36, .inl g_175) := by rw [hkc_323 a_35 (by rw [ka_35]; decide) (by rw [ka_35]; decide) (by rw [ka_35]; decide)]; exact hfo_315
        have hfo_340 : f_322 o0 = .inr (7, [.ref a_25, .int v_3, .ref a_27, .ref a_28, .ref a_29, .ref a_30, .int v_8, .ref a_32, .ref a_33, .ref a_34, .ref a_35, .ref a_36, .int v_14, .ref a_38, .ref a_39, .ref a_40]) := by rw [hkc_323 o0 (by rw [ko0]; decide) (by rw [ko0]; decide) (by rw [ko0]; decide)]; exact hfo_316
        have hfr0 : ∀ b, kd b ≠ 4 → kd b ≠ 5 → kd b ≠ 7 → kd b ≠ 9 → kd b ≠ 13 → kd b ≠ 500 → kd b ≠ 501 → kd b ≠ 502 → kd b ≠ 503 → kd b ≠ 504 → kd b ≠ 505 → kd b ≠ 506 → kd b ≠ 507 → kd b ≠ 508 → kd b ≠ 509 → kd b ≠ 510 → kd b ≠ 511 → kd b ≠ 514 → f_322 b = f b := fun b q4 q5 q7 q9 q13 q500 q501 q502 q503 q504 q505 q506 q507 q508 q509 q510 q511 q514 => (hkc_323 b q13 q506 q507).trans (hfr0 b q4 q5 q7 q9 q13 q500 q501 q502 q503 q504 q505 q506 q507 q508 q509 q510 q511 q514)
        have hrr7_0 : ∀ b, kd b = 7 → fldR (f_322 b) 0 = fldR (f b) 0 := fun b kb => (congrArg (fun x => fldR x 0) (hkc_323 b (by rw [kb]; decide) (by rw [kb]; decide) (by rw [kb]; decide))).trans (hrr7_0 b kb)
        have hrr7_3 : ∀ b, kd b = 7 → fldR (f_322 b) 3 = fldR (f b) 3 := fun b kb => (congrArg (fun x => fldR x 3) (hkc_323 b (by rw [kb]; decide) (by rw [kb]; decide) (by rw [kb]; decide))).trans (hrr7_3 b kb)
        have hrr7_11 : ∀ b, kd b = 7 → fldR (f_322 b) 11 = fldR (f b) 11 := fun b kb => (congrArg (fun x => fldR x 11) (hkc_323 b (by rw [kb]; decide) (by rw [kb]; decide) (by rw [kb]; decide))).trans (hrr7_11 b kb)
        have hT0 : trel kd 107 549 551 556 104 f_322 o1 := hT0.keep (fun b q => hkc_323 b (by rw [q]; decide) (by rw [q]; decide) (by rw [q]; decide)) (fun b q => hkc_323 b (by rw [q]; decide) (by rw [q]; decide) (by rw [q]; decide)) (fun b q => hkc_323 b (by rw [q]; decide) (by rw [q]; decide) (by rw [q]; decide)) (fun b q => hkc_323 b (by rw [q]; decide) (by rw [q]; decide) (by rw [q]; decide)) (fun b q => congrArg (fun x => fldI x 1) (hkc_323 b (by rw [q]; decide) (by rw [q]; decide) (by rw [q]; decide)))
        have hT9 : trel kd 7 508 510 515 4 f_322 o0 := hT9.keep (fun b q => hkc_323 b (by rw [q]; decide) (by rw [q]; decide) (by rw [q]; decide)) (fun b q => hkc_323 b (by rw [q]; decide) (by rw [q]; decide) (by rw [q]; decide)) (fun b q => hkc_323 b (by rw [q]; decide) (by rw [q]; decide) (by rw [q]; decide)) (fun b q => hkc_323 b (by rw [q]; decide) (by rw [q]; decide) (by rw [q]; decide)) (fun b q => congrArg (fun x => fldI x 1) (hkc_323 b (by rw [q]; decide) (by rw [q]; decide) (by rw [q]; decide)))
        exact W.vret hx hb hr (fun t ht hW => ⟨⟨f_322, rfl, ⟨hG, hfr0, hrr7_0, hrr7_3, hrr7_11, (fun w9 h9 => by rw [hfo_325] at h9; rw [hfo_340]; exact h9), hT0, hT9⟩, by rw [ht]; exact hP, va_K.moved hW.alike hK, pl_in hD⟩, hS.F ht⟩) hS.2.2 dX7_copyFrom_203
      · skip
        rw [Int32.le_iff_toInt_le] at c_292
        refine lv_aload_n hx hb dX7_copyFrom_160 rfl (lv_at hl 1 rfl) ?_
        refine tk_getP (D := (dC, dI)) (ci := 7) (v := .ref a_36) (C := RX7) (T := TX7) (N := 16) hx hb hU inlX7 hown hK hP mo0 hfo_291 rfl 11 (by decide) (hU _ wd_82) (fun _ h9 => h9) rfl dX7_copyFrom_161 ?_
        refine lv_iload_n hx hb dX7_copyFrom_164 rfl (lv_at hl 0 rfl) ?_
        obtain ⟨a_341, hga_341, ma_341, ka_341⟩ := hbg_42 (Int32.toNatClampNeg y_273) (in_lt (vp_in_iff.mpr (by constructor <;> omega)))
        refine tk_aldP hx hb hK hP 3 ma_36 hfo_280 rfl (vp_in_iff.mpr (by constructor <;> omega)) hga_341 dX7_copyFrom_165 ?_
        refine lv_aload_n hx hb dX7_copyFrom_166 rfl (lv_at hl 2 rfl) ?_
        refine tk_getP (D := (dC, dI)) (ci := 7) (v := .ref a_13) (C := RX7) (T := TX7) (N := 16) hx hb hU inlX7 hown hK hP mo1 hfo_276 rfl 11 (by decide) (hU _ wd_82) (fun _ h9 => h9) rfl dX7_copyFrom_167 ?_
        refine lv_iload_n hx hb dX7_copyFrom_170 rfl (lv_at hl 0 rfl) ?_
        obtain ⟨a_342, hga_342, ma_342, ka_342⟩ := hbg_23 (Int32.toNatClampNeg y_273) (in_lt (vp_in_iff.mpr (by constructor <;> omega)))
        refine tk_aldP hx hb hK hP 3 ma_13 hfo_279 rfl (vp_in_iff.mpr (by constructor <;> omega)) hga_342 dX7_copyFrom_171 ?_
        have hTu := hT0
        obtain ⟨tun, tup, tuc, tus, tua, tur, tug, tuh, tuq, ⟨-, -, -, -⟩, ⟨tut1, tut2, tut3, tut4, tut5, tut6⟩, ⟨tuw1, tuw2, tuw3⟩, tu4, tu5, tu6, tu7⟩ := hTu
        rw [hfo_276] at tut1 tut2 tut3 tut4 tut5 tut6
        obtain rfl := Option.some.inj tut1
        obtain rfl := Option.some.inj tut2
        obtain rfl := Option.some.inj tut3
        obtain rfl := Option.some.inj tut4
        obtain rfl := Option.some.inj tut5
        obtain rfl := Option.some.inj tut6
        rw [hfo_277] at tuw1
        obtain rfl := Option.some.inj tuw1
        rw [hfo_278] at tuw2
        obtain rfl := Option.some.inj tuw2
        rw [hfo_279] at tuw3
        obtain rfl := Option.some.inj tuw3
        have hc9 := cl_I (i := y_273) (by omega)
        obtain ⟨b9, w9, u1, u2, u3, u4⟩ := tu7 (Int32.toNatClampNeg y_273) (by omega)
        rw [hga_342] at u1
        obtain rfl := Option.some.inj u1
        obtain ⟨v_344, v_345, v_346, v_347, a_348, a_349, a_350, a_351, v_352, v_353, v_354, hfo_343, bv_344, bv_345, bv_346, bv_347, ⟨ma_348, ka_348⟩, ⟨ma_349, ka_349⟩, ⟨ma_350, ka_350⟩, ⟨ma_351, ka_351⟩⟩ := un_4 (hG _ ma_341) ka_341
        have bv_352 : ((-2147483648) ≤ v_352.toInt ∧ v_352.toInt ≤ 2147483647) := ⟨i32_lo _, i32_hi _⟩
        have bv_353 : ((-2147483648) ≤ v_353.toInt ∧ v_353.toInt ≤ 2147483647) := ⟨i32_lo _, i32_hi _⟩
        have bv_354 : ((-2147483648) ≤ v_354.toInt ∧ v_354.toInt ≤ 2147483647) := ⟨i32_lo _, i32_hi _⟩
        refine tk_VvP (As := [.ref a_342]) (rest := []) (n := 1) hx hb hml hown hU hN hZ (s_X4_copyFrom_k4_k104_t l (dC, dI) cI cL cZ cR cG cH Z kd L f_275 hG a_341 ma_341 ka_341 a_342 ma_342 ka_342) wd_535 wd_536 wd_537 wd_90 wd_538 (by decide +kernel) ⟨Nat.le_of_ble_eq_true rfl, Nat.le_of_ble_eq_true rfl⟩ hK hP hD hS ma_341 hfo_343 4 rfl rfl rfl hl.1 rfl (Nat.le_of_ble_eq_true rfl) dX7_copyFrom_172 ⟨Nat.le_of_ble_eq_true rfl, Nat.le_of_ble_eq_true rfl⟩ (fun f_356 H locs hw hP hD hS => ?_)
        obtain ⟨hG, hkc_357, hac_358, hxp_359⟩ := hw
        have hfo_361 : f_356 o1 = .inr (7, [.ref a_2, .int v_3, .ref a_4, .ref a_5, .ref a_6, .ref a_7, .int v_8, .ref a_9, .ref a_10, .ref a_11, .ref a_12, .ref a_13, .int v_14, .ref a_15, .ref a_16, .ref a_17]) := by rw [hkc_357 o1 (by rw [ko1]; decide) (by rw [ko1]; decide) (by rw [ko1]; decide) (by rw [ko1]; decide) (by rw [ko1]; decide) (by rw [ko1]; decide)]; exact hfo_276
        have hfo_362 : f_356 a_2 = .inl (cI, 26, .inl g_19) := by rw [hkc_357 a_2 (by rw [ka_2]; decide) (by rw [ka_2]; decide) (by rw [ka_2]; decide) (by rw [ka_2]; decide) (by rw [ka_2]; decide) (by rw [ka_2]; decide)]; exact hfo_277
        have hfo_363 : f_356 a_5 = .inl (cI, 81, .inl g_21) := by rw [hkc_357 a_5 (by rw [ka_5]; decide) (by rw [ka_5]; decide) (by rw [ka_5]; decide) (by rw [ka_5]; decide) (by rw [ka_5]; decide) (by rw [ka_5]; decide)]; exact hfo_278
        have hfo_364 : f_356 a_13 = .inl (cR, 8, .inr (.inr (.inr (.inr g_23)))) := by rw [hkc_357 a_13 (by rw [ka_13]; decide) (by rw [ka_13]; decide) (by rw [ka_13]; decide) (by rw [ka_13]; decide) (by rw [ka_13]; decide) (by rw [ka_13]; decide)]; exact hfo_279
        have hfo_365 : f_356 a_36 = .inl (cR, 8, .inr (.inr (.inr (.inr g_42)))) := by rw [hkc_357 a_36 (by rw [ka_36]; decide) (by rw [ka_36]; decide) (by rw [ka_36]; decide) (by rw [ka_36]; decide) (by rw [ka_36]; decide) (by rw [ka_36]; decide)]; exact hfo_280
        have hfo_366 : f_356 a_25 = .inl (cI, 26, .inl g_45) := by rw [hkc_357 a_25 (by rw [ka_25]; decide) (by rw [ka_25]; decide) (by rw [ka_25]; decide) (by rw [ka_25]; decide) (by rw [ka_25]; decide) (by rw [ka_25]; decide)]; exact hfo_281
        have hfo_367 : f_356 a_4 = .inl (cI, 6, .inl g_67) := by rw [hkc_357 a_4 (by rw [ka_4]; decide) (by rw [ka_4]; decide) (by rw [ka_4]; decide) (by rw [ka_4]; decide) (by rw [ka_4]; decide) (by rw [ka_4]; decide)]; exact hfo_282
        have hfo_368 : f_356 a_27 = .inl (cI, 6, .inl g_68) := by rw [hkc_357 a_27 (by rw [ka_27]; decide) (by rw [ka_27]; decide) (by rw [ka_27]; decide) (by rw [ka_27]; decide) (by rw [ka_27]; decide) (by rw [ka_27]; decide)]; exact hfo_283
        have hfo_369 : f_356 a_28 = .inl (cI, 81, .inl g_82) := by rw [hkc_357 a_28 (by rw [ka_28]; decide) (by rw [ka_28]; decide) (by rw [ka_28]; decide) (by rw [ka_28]; decide) (by rw [ka_28]; decide) (by rw [ka_28]; decide)]; exact hfo_284
        have hfo_370 : f_356 a_6 = .inl (cI, 20, .inl g_98) := by rw [hkc_357 a_6 (by rw [ka_6]; decide) (by rw [ka_6]; decide) (by rw [ka_6]; decide) (by rw [ka_6]; decide) (by rw [ka_6]; decide) (by rw [ka_6]; decide)]; exact hfo_285
        have hfo_371 : f_356 a_7 = .inl (cI, 20, .inl g_117) := by rw [hkc_357 a_7 (by rw [ka_7]; decide) (by rw [ka_7]; decide) (by rw [ka_7]; decide) (by rw [ka_7]; decide) (by rw [ka_7]; decide) (by rw [ka_7]; decide)]; exact hfo_286
        have hfo_372 : f_356 a_30 = .inl (cI, 20, .inl g_118) := by rw [hkc_357 a_30 (by rw [ka_30]; decide) (by rw [ka_30]; decide) (by rw [ka_30]; decide) (by rw [ka_30]; decide) (by rw [ka_30]; decide) (by rw [ka_30]; decide)]; exact hfo_287
        have hfo_373 : f_356 a_11 = .inl (cI, 36, .inl g_152) := by rw [hkc_357 a_11 (by rw [ka_11]; decide) (by rw [ka_11]; decide) (by rw [ka_11]; decide) (by rw [ka_11]; decide) (by rw [ka_11]; decide) (by rw [ka_11]; decide)]; exact hfo_288
        have hfo_374 : f_356 a_12 = .inl (cI, 36, .inl g_174) := by rw [hkc_357 a_12 (by rw [ka_12]; decide) (by rw [ka_12]; decide) (by rw [ka_12]; decide) (by rw [ka_12]; decide) (by rw [ka_12]; decide) (by rw [ka_12]; decide)]; exact hfo_289
        have hfo_375 : f_356 a_35 = .inl (cI, 36, .inl g_175) := by rw [hkc_357 a_35 (by rw [ka_35]; decide) (by rw [ka_35]; decide) (by rw [ka_35]; decide) (by rw [ka_35]; decide) (by rw [ka_35]; decide) (by rw [ka_35]; decide)]; exact hfo_290
        have hfo_376 : f_356 o0 = .inr (7, [.ref a_25, .int v_3, .ref a_27, .ref a_28, .ref a_29, .ref a_30, .int v_8, .ref a_32, .ref a_33, .ref a_34, .ref a_35, .ref a_36, .int v_14, .ref a_38, .ref a_39, .ref a_40]) := by rw [hkc_357 o0 (by rw [ko0]; decide) (by rw [ko0]; decide) (by rw [ko0]; decide) (by rw [ko0]; decide) (by rw [ko0]; decide) (by rw [ko0]; decide)]; exact hfo_291
        have hfr0 : ∀ b, kd b ≠ 4 → kd b ≠ 5 → kd b ≠ 7 → kd b ≠ 9 → kd b ≠ 13 → kd b ≠ 500 → kd b ≠ 501 → kd b ≠ 502 → kd b ≠ 503 → kd b ≠ 504 → kd b ≠ 505 → kd b ≠ 506 → kd b ≠ 507 → kd b ≠ 508 → kd b ≠ 509 → kd b ≠ 510 → kd b ≠ 511 → kd b ≠ 514 → f_356 b = f b := fun b q4 q5 q7 q9 q13 q500 q501 q502 q503 q504 q505 q506 q507 q508 q509 q510 q511 q514 => (hkc_357 b q4 q5 q500 q501 q502 q503).trans (hfr0 b q4 q5 q7 q9 q13 q500 q501 q502 q503 q504 q505 q506 q507 q508 q509 q510 q511 q514)
        have hrr7_0 : ∀ b, kd b = 7 → fldR (f_356 b) 0 = fldR (f b) 0 := fun b kb => (congrArg (fun x => fldR x 0) (hkc_357 b (by rw [kb]; decide) (by rw [kb]; decide) (by rw [kb]; decide) (by rw [kb]; decide) (by rw [kb]; decide) (by rw [kb]; decide))).trans (hrr7_0 b kb)
        have hrr7_3 : ∀ b, kd b = 7 → fldR (f_356 b) 3 = fldR (f b) 3 := fun b kb => (congrArg (fun x => fldR x 3) (hkc_357 b (by rw [kb]; decide) (by rw [kb]; decide) (by rw [kb]; decide) (by rw [kb]; decide) (by rw [kb]; decide) (by rw [kb]; decide))).trans (hrr7_3 b kb)
        have hrr7_11 : ∀ b, kd b = 7 → fldR (f_356 b) 11 = fldR (f b) 11 := fun b kb => (congrArg (fun x => fldR x 11) (hkc_357 b (by rw [kb]; decide) (by rw [kb]; decide) (by rw [kb]; decide) (by rw [kb]; decide) (by rw [kb]; decide) (by rw [kb]; decide))).trans (hrr7_11 b kb)
        have hT0 : trel kd 107 549 551 556 104 f_356 o1 := hT0.keep (fun b q => hkc_357 b (by rw [q]; decide) (by rw [q]; decide) (by rw [q]; decide) (by rw [q]; decide) (by rw [q]; decide) (by rw [q]; decide)) (fun b q => hkc_357 b (by rw [q]; decide) (by rw [q]; decide) (by rw [q]; decide) (by rw [q]; decide) (by rw [q]; decide) (by rw [q]; decide)) (fun b q => hkc_357 b (by rw [q]; decide) (by rw [q]; decide) (by rw [q]; decide) (by rw [q]; decide) (by rw [q]; decide) (by rw [q]; decide)) (fun b q => hkc_357 b (by rw [q]; decide) (by rw [q]; decide) (by rw [q]; decide) (by rw [q]; decide) (by rw [q]; decide) (by rw [q]; decide)) (fun b q => congrArg (fun x => fldI x 1) (hkc_357 b (by rw [q]; decide) (by rw [q]; decide) (by rw [q]; decide) (by rw [q]; decide) (by rw [q]; decide) (by rw [q]; decide)))
        obtain ⟨x_377, ex_377⟩ : ∃ y : Int32, y_273 + 1 = y := ⟨_, rfl⟩
        have hx_377 : x_377.toInt = y_273.toInt + 1 := by rw [← ex_377, ad_I (by rw [ti_1]; omega) (by rw [ti_1]; omega), ti_1]
        have bx_377 : (1 ≤ x_377.toInt ∧ x_377.toInt ≤ 8) := by constructor <;> omega
        refine lv_iinc (v := x_377) (lv' := [(2, .int x_377), (0, .ref o0), (1, .ref o1)]) hx hb dX7_copyFrom_175 hl (k := 0) rfl ex_377 (by decide) rfl (fun ls hl => ?_)
        refine lv_goto (tgt := 152) hx hb dX7_copyFrom_178 (by decide) ?_
        exact ih_hloop_272 x_377 (by constructor <;> omega) f_356 hG _ _ hP hS hD hfr0 hrr7_0 hrr7_3 hrr7_11 hfo_361 hfo_362 hfo_363 hfo_364 hfo_365 hfo_366 hfo_367 hfo_368 hfo_369 hfo_370 hfo_371 hfo_372 hfo_373 hfo_374 hfo_375 hfo_376 hT0 (fun k9 hk9 => by have hcs := hxp_359 w9 u3; by_cases hki : (k9 : Int) = y_273.toInt; (· exact ⟨a_341, w9, (by rw [show k9 = Int32.toNatClampNeg y_273 by omega]; exact hga_341), ka_341, hcs, u4⟩); (· obtain ⟨b8, w8, v1, v2, v3, v4⟩ := hxi k9 (by omega); by_cases hbb : b8 = a_341; (· exact ⟨b8, w9, v1, v2, by rw [hbb]; exact hcs, u4⟩); (· exact ⟨b8, w8, v1, v2, by rw [hac_358 b8 v2 hbb]; exact v3, v4⟩))) (by omega) ls (lv_sub hl [0, 1, 2] rfl)
  exact hloop_272 9 0 (by decide) f_195 hG _ _ hP hS hD hfr0 hrr7_0 hrr7_3 hrr7_11 hfo_196 hfo_197 hfo_198 hfo_199 hfo_200 hfo_201 hfo_202 hfo_203 hfo_204 hfo_205 hfo_206 hfo_207 hfo_208 hfo_209 hfo_210 hfo_211 hT0 (fun k9 hk9 => by exfalso; have h3 : ((0 : Int32)).toInt = 0 := rfl; omega) (by (try rw [ti_0]) <;> omega) ls hl
