set_option maxHeartbeats 8000000 in
set_option maxRecDepth 100000 in
theorem s_X7_addLetter_k207_t (l : Launch) (D : va_G) (cI cL cZ cR cG cH : ClassId) (Z : zT) (kd : Nat → Nat) (L : List Nat) (f : Nat → va_E) (hG : GI (okc cI cL cZ cR cG cH L kd) kd L f) (o0 : Nat) (mo0 : o0 ∈ L) (ko0 : kd o0 = 207) (p1 : Int32) (bp1 : (97 ≤ p1.toInt ∧ p1.toInt ≤ 122)) (hxtr0 : trel kd 207 566 568 573 204 f o0) : mPV l D cI cL cZ cR cG cH Z yX7_addLetter cX7_addLetter 2 none 1 24 [.ref o0, .int p1] L f (fun (f9 : Nat → va_E) => GI (okc cI cL cZ cR cG cH L kd) kd L f9 ∧ (∀ b, kd b ≠ 207 → kd b ≠ 566 → kd b ≠ 568 → kd b ≠ 569 → kd b ≠ 572 → f9 b = f b) ∧ (∀ b, kd b = 207 → fldI (f9 b) 12 = fldI (f b) 12) ∧ (∀ b, kd b = 207 → fldR (f9 b) 0 = fldR (f b) 0) ∧ (∀ b, kd b = 207 → fldR (f9 b) 3 = fldR (f b) 3) ∧ (∀ b, kd b = 207 → fldR (f9 b) 11 = fldR (f b) 11) ∧ (trel kd 207 566 568 573 204 f9 o0)) := by
  obtain ⟨dC, dI⟩ := D
  refine Met.ofW (cc := cX7_addLetter) (maxL := 2) (ret := none) (by decide) rfl ?_
  intro p e s m args below meth c s₁ B hml hv
  obtain ⟨rfl, hP, hK, hD0, hN, hZ⟩ := hv
  have hx := B.exec
  have hb := B.bytes
  have hr := B.returns
  have hU : ∀ w ∈ wsU, w.before _ s = true := fun w h => atoms_spec (ws := wU yX7_addLetter cX7_addLetter 2 none) B.pre w (List.mem_cons_of_mem _ h)
  have hown : s.vm.findClass RX7 = some m.cls := findClass_of_methodNamed B.named
  have hlocks := B.notSynchronized
  have hD := pl_in hD0
  have hS : va_S (fun q => q ∈ L) s.heap s.heap [] := va_S.rf
  have hl := lv_entry ([.ref o0, .int p1]) (n := 2) (Nat.le_of_ble_eq_true rfl)
  rw [lg_entry_eq]
  generalize (lg_sl ([.ref o0, .int p1]) ++ List.replicate (2 - (lg_sl ([.ref o0, .int p1])).length) Slot.unset).toArray = ls at hl ⊢
  have hl : lv_has ls 2 [(0, .ref o0), (1, .int p1)] := hl
  have hfr0 : ∀ b, kd b ≠ 207 → kd b ≠ 566 → kd b ≠ 568 → kd b ≠ 569 → kd b ≠ 572 → f b = f b := fun _ _ _ _ _ _ => rfl
  have hfr207_12 : ∀ b, kd b = 207 → fldI (f b) 12 = fldI (f b) 12 := fun _ _ => rfl
  have hrr207_0 : ∀ b, kd b = 207 → fldR (f b) 0 = fldR (f b) 0 := fun _ _ => rfl
  have hrr207_3 : ∀ b, kd b = 207 → fldR (f b) 3 = fldR (f b) 3 := fun _ _ => rfl
  have hrr207_11 : ∀ b, kd b = 207 → fldR (f b) 11 = fldR (f b) 11 := fun _ _ => rfl
  have hT0 := hxtr0
  have hTq := hT0
  obtain ⟨a_2, v_3, a_4, a_5, a_6, a_7, v_8, a_9, a_10, a_11, a_12, a_13, v_14, a_15, a_16, a_17, hfo_1, ⟨ma_2, ka_2⟩, bv_3, ⟨ma_4, ka_4⟩, ⟨ma_5, ka_5⟩, ⟨ma_6, ka_6⟩, ⟨ma_7, ka_7⟩, bv_8, ⟨ma_9, ka_9⟩, ⟨ma_10, ka_10⟩, ⟨ma_11, ka_11⟩, ⟨ma_12, ka_12⟩, ⟨ma_13, ka_13⟩, bv_14, ⟨ma_15, ka_15⟩, ⟨ma_16, ka_16⟩, ⟨ma_17, ka_17⟩⟩ := un_207 (hG _ mo0) ko0
  obtain ⟨g_19, hfo_18, hbg_19⟩ := un_566 (hG _ ma_2) ka_2
  obtain ⟨g_21, hfo_20, hbg_21⟩ := un_568 (hG _ ma_5) ka_5
  obtain ⟨g_23, hfo_22, hbg_23⟩ := un_573 (hG _ ma_13) ka_13
  obtain ⟨tqn, tqp, tqc, tqs, tqa, tqr, tqg, tqh, tqq, ⟨-, -, -, -⟩, ⟨tqt1, tqt2, tqt3, tqt4, tqt5, tqt6⟩, ⟨tqw1, tqw2, tqw3⟩, tq4, tq5, tq6, tq7⟩ := hTq
  rw [hfo_1] at tqt1 tqt2 tqt3 tqt4 tqt5 tqt6
  obtain rfl := Option.some.inj tqt1
  obtain rfl := Option.some.inj tqt2
  obtain rfl := Option.some.inj tqt3
  obtain rfl := Option.some.inj tqt4
  obtain rfl := Option.some.inj tqt5
  obtain rfl := Option.some.inj tqt6
  rw [hfo_18] at tqw1
  obtain rfl := Option.some.inj tqw1
  rw [hfo_20] at tqw2
  obtain rfl := Option.some.inj tqw2
  rw [hfo_22] at tqw3
  obtain rfl := Option.some.inj tqw3
  refine lv_aload_n hx hb dX7_addLetter_0 rfl (lv_at hl 0 rfl) ?_
  refine tk_getP (D := (dC, dI)) (ci := 7) (v := .int v_3) (C := RX7) (T := TX7) (N := 16) hx hb hU inlX7 hown hK hP mo0 hfo_1 rfl 1 (by decide) (hU _ wd_262) (fun _ h9 => h9) rfl dX7_addLetter_1 ?_
  refine lv_bipush (v := 8) hx hb dX7_addLetter_4 (by decide) ?_
  refine lv_icmp_ge (tgt := 46) hx hb dX7_addLetter_6 (by decide) (fun c_24 => ?_) (fun c_24 => ?_)
  · skip
    rw [Int32.le_iff_toInt_le, ti_8] at c_24
    exact W.vret hx hb hr (fun t ht hW => ⟨⟨f, rfl, ⟨hG, hfr0, hfr207_12, hrr207_0, hrr207_3, hrr207_11, hT0⟩, by rw [ht]; exact hP, va_K.moved hW.alike hK, pl_in hD⟩, hS.F ht⟩) hS.2.2 dX7_addLetter_46
  · skip
    rw [Int32.le_iff_toInt_le, ti_8] at c_24
    refine lv_aload_n hx hb dX7_addLetter_9 rfl (lv_at hl 0 rfl) ?_
    refine lv_dup hx hb dX7_addLetter_10 rfl ?_
    refine tk_getP (D := (dC, dI)) (ci := 7) (v := .int v_3) (C := RX7) (T := TX7) (N := 16) hx hb hU inlX7 hown hK hP mo0 hfo_1 rfl 1 (by decide) (hU _ wd_262) (fun _ h9 => h9) rfl dX7_addLetter_11 ?_
    refine lv_iconst (v := 1) hx hb dX7_addLetter_14 (by decide) ?_
    refine lv_iadd hx hb dX7_addLetter_15 ?_
    refine lv_topi (fun x_25 ex_25 => ?_)
    have hx_25 : x_25.toInt = v_3.toInt + 1 := by rw [ex_25, ad_I (by rw [ti_1]; omega) (by rw [ti_1]; omega), ti_1]
    have bx_25 : (1 ≤ x_25.toInt ∧ x_25.toInt ≤ 8) := by constructor <;> omega
    refine tk_putP (D := (dC, dI)) (ci := 7) (v := .int x_25) (ty := .int) (C := RX7) (T := TX7) (N := 16) hx hb hU inlX7 tyX7 tyX7_ok nmX7 hown hK hP hD hS mo0 hfo_1 rfl 1 (by decide) (hU _ wd_262) (fun _ h9 => h9) rfl (by decide +kernel) rfl rfl (Nat.le_of_ble_eq_true rfl) dX7_addLetter_16 (fun H locs hP hD hS => ?_)
    obtain ⟨f_27, ef_27⟩ : ∃ y : Nat → va_E, y = va_up f o0 (.inr (7, [.ref a_2, .int x_25, .ref a_4, .ref a_5, .ref a_6, .ref a_7, .int v_8, .ref a_9, .ref a_10, .ref a_11, .ref a_12, .ref a_13, .int v_14, .ref a_15, .ref a_16, .ref a_17])) := ⟨_, rfl⟩
    have hP : va_P (dC, dI) vwCl (va_pl L f_27) H := by rw [ef_27]; exact hP
    have hD : va_D (fun q => q ∈ L) (va_pl L f_27) := by rw [ef_27]; exact hD
    have hG : GI (okc cI cL cZ cR cG cH L kd) kd L f_27 := by rw [ef_27]; exact hG.set o0 (mk_207 ko0 ⟨a_2, x_25, a_4, a_5, a_6, a_7, v_8, a_9, a_10, a_11, a_12, a_13, v_14, a_15, a_16, a_17, rfl, ⟨ma_2, ka_2⟩, (by constructor <;> omega), ⟨ma_4, ka_4⟩, ⟨ma_5, ka_5⟩, ⟨ma_6, ka_6⟩, ⟨ma_7, ka_7⟩, (by constructor <;> omega), ⟨ma_9, ka_9⟩, ⟨ma_10, ka_10⟩, ⟨ma_11, ka_11⟩, ⟨ma_12, ka_12⟩, ⟨ma_13, ka_13⟩, (by constructor <;> omega), ⟨ma_15, ka_15⟩, ⟨ma_16, ka_16⟩, ⟨ma_17, ka_17⟩⟩)
    have hfo_28 : f_27 a_2 = .inl (cI, 26, .inl g_19) := by rw [ef_27, up_ne (kd_ne ko0 ka_2 (by decide))]; exact hfo_18
    have hfo_29 : f_27 a_5 = .inl (cI, 81, .inl g_21) := by rw [ef_27, up_ne (kd_ne ko0 ka_5 (by decide))]; exact hfo_20
    have hfo_30 : f_27 a_13 = .inl (cR, 8, .inr (.inr (.inr (.inr g_23)))) := by rw [ef_27, up_ne (kd_ne ko0 ka_13 (by decide))]; exact hfo_22
    have hfr0 : ∀ b, kd b ≠ 207 → kd b ≠ 566 → kd b ≠ 568 → kd b ≠ 569 → kd b ≠ 572 → f_27 b = f b := fun b q207 q566 q568 q569 q572 => (congrFun ef_27 b).trans ((up_ne (fun e9 => q207 (by rw [e9]; exact ko0))).trans (hfr0 b q207 q566 q568 q569 q572))
    have hfr207_12 : ∀ b, kd b = 207 → fldI (f_27 b) 12 = fldI (f b) 12 := fun b kb => ((congrArg (fun x => fldI x 12) (congrFun ef_27 b)).trans (fk_up (by rw [hfo_1]; rfl) b)).trans (hfr207_12 b kb)
    have hrr207_0 : ∀ b, kd b = 207 → fldR (f_27 b) 0 = fldR (f b) 0 := fun b kb => ((congrArg (fun x => fldR x 0) (congrFun ef_27 b)).trans (fr_up (by rw [hfo_1]; rfl) b)).trans (hrr207_0 b kb)
    have hrr207_3 : ∀ b, kd b = 207 → fldR (f_27 b) 3 = fldR (f b) 3 := fun b kb => ((congrArg (fun x => fldR x 3) (congrFun ef_27 b)).trans (fr_up (by rw [hfo_1]; rfl) b)).trans (hrr207_3 b kb)
    have hrr207_11 : ∀ b, kd b = 207 → fldR (f_27 b) 11 = fldR (f b) 11 := fun b kb => ((congrArg (fun x => fldR x 11) (congrFun ef_27 b)).trans (fr_up (by rw [hfo_1]; rfl) b)).trans (hrr207_11 b kb)
    have hfo_31 : f_27 o0 = .inr (7, [.ref a_2, .int x_25, .ref a_4, .ref a_5, .ref a_6, .ref a_7, .int v_8, .ref a_9, .ref a_10, .ref a_11, .ref a_12, .ref a_13, .int v_14, .ref a_15, .ref a_16, .ref a_17]) := by rw [ef_27]; exact up_self
    refine lv_aload_n hx hb dX7_addLetter_19 rfl (lv_at hl 0 rfl) ?_
    refine tk_getP (D := (dC, dI)) (ci := 7) (v := .ref a_2) (C := RX7) (T := TX7) (N := 16) hx hb hU inlX7 hown hK hP mo0 hfo_31 rfl 0 (by decide) (hU _ wd_72) (fun _ h9 => h9) rfl dX7_addLetter_20 ?_
    refine lv_iload_n hx hb dX7_addLetter_23 rfl (lv_at hl 1 rfl) ?_
    refine lv_bipush (v := 97) hx hb dX7_addLetter_24 (by decide) ?_
    refine lv_isub hx hb dX7_addLetter_26 ?_
    refine lv_topi (fun x_32 ex_32 => ?_)
    have hx_32 : x_32.toInt = p1.toInt - 97 := by rw [ex_32, sb_I (by rw [ti_97]; omega) (by rw [ti_97]; omega), ti_97]
    have bx_32 : (0 ≤ x_32.toInt ∧ x_32.toInt ≤ 25) := by constructor <;> omega
    refine lv_aload_n hx hb dX7_addLetter_27 rfl (lv_at hl 0 rfl) ?_
    refine tk_getP (D := (dC, dI)) (ci := 7) (v := .int x_25) (C := RX7) (T := TX7) (N := 16) hx hb hU inlX7 hown hK hP mo0 hfo_31 rfl 1 (by decide) (hU _ wd_262) (fun _ h9 => h9) rfl dX7_addLetter_28 ?_
    refine tk_istP hx hb hK hP hD hS 0 ma_2 hfo_28 rfl (vp_in_iff.mpr (by constructor <;> omega)) dX7_addLetter_31 (fun H locs hP hD hS => ?_)
    obtain ⟨g_33, eqg_33⟩ : ∃ y : Nat → Int32, y = upd g_19 (Int32.toNatClampNeg x_32) x_25 := ⟨_, rfl⟩
    rw [← eqg_33] at hP hD
    have hbg_33 : ∀ j, 0 ≤ (g_33 j).toInt ∧ (g_33 j).toInt ≤ 8 := by rw [eqg_33]; exact okI_up hbg_19 (by constructor <;> omega) _
    obtain ⟨f_35, ef_35⟩ : ∃ y : Nat → va_E, y = va_up f_27 a_2 (.inl (cI, 26, .inl g_33)) := ⟨_, rfl⟩
    have hP : va_P (dC, dI) vwCl (va_pl L f_35) H := by rw [ef_35]; exact hP
    have hD : va_D (fun q => q ∈ L) (va_pl L f_35) := by rw [ef_35]; exact hD
    have hG : GI (okc cI cL cZ cR cG cH L kd) kd L f_35 := by rw [ef_35]; exact hG.set a_2 (mk_566 ka_2 ⟨_, rfl, hbg_33⟩)
    have hfo_36 : f_35 a_5 = .inl (cI, 81, .inl g_21) := by rw [ef_35, up_ne (kd_ne ka_2 ka_5 (by decide))]; exact hfo_29
    have hfo_37 : f_35 a_13 = .inl (cR, 8, .inr (.inr (.inr (.inr g_23)))) := by rw [ef_35, up_ne (kd_ne ka_2 ka_13 (by decide))]; exact hfo_30
    have hfo_38 : f_35 o0 = .inr (7, [.ref a_2, .int x_25, .ref a_4, .ref a_5, .ref a_6, .ref a_7, .int v_8, .ref a_9, .ref a_10, .ref a_11, .ref a_12, .ref a_13, .int v_14, .ref a_15, .ref a_16, .ref a_17]) := by rw [ef_35, up_ne (kd_ne ka_2 ko0 (by decide))]; exact hfo_31
    have hfr0 : ∀ b, kd b ≠ 207 → kd b ≠ 566 → kd b ≠ 568 → kd b ≠ 569 → kd b ≠ 572 → f_35 b = f b := fun b q207 q566 q568 q569 q572 => (congrFun ef_35 b).trans ((up_ne (fun e9 => q566 (by rw [e9]; exact ka_2))).trans (hfr0 b q207 q566 q568 q569 q572))
    have hfr207_12 : ∀ b, kd b = 207 → fldI (f_35 b) 12 = fldI (f b) 12 := fun b kb => (congrArg (fun x => fldI x 12) ((congrFun ef_35 b).trans (up_ne (kd_ne ka_2 kb (by decide))))).trans (hfr207_12 b kb)
    have hrr207_0 : ∀ b, kd b = 207 → fldR (f_35 b) 0 = fldR (f b) 0 := fun b kb => (congrArg (fun x => fldR x 0) ((congrFun ef_35 b).trans (up_ne (kd_ne ka_2 kb (by decide))))).trans (hrr207_0 b kb)
    have hrr207_3 : ∀ b, kd b = 207 → fldR (f_35 b) 3 = fldR (f b) 3 := fun b kb => (congrArg (fun x => fldR x 3) ((congrFun ef_35 b).trans (up_ne (kd_ne ka_2 kb (by decide))))).trans (hrr207_3 b kb)
    have hrr207_11 : ∀ b, kd b = 207 → fldR (f_35 b) 11 = fldR (f b) 11 := fun b kb => (congrArg (fun x => fldR x 11) ((congrFun ef_35 b).trans (up_ne (kd_ne ka_2 kb (by decide))))).trans (hrr207_11 b kb)
    have hfo_39 : f_35 a_2 = .inl (cI, 26, .inl g_33) := by rw [ef_35]; exact up_self
    refine lv_aload_n hx hb dX7_addLetter_32 rfl (lv_at hl 0 rfl) ?_
    refine lv_aload_n hx hb dX7_addLetter_33 rfl (lv_at hl 0 rfl) ?_
    refine tk_getP (D := (dC, dI)) (ci := 7) (v := .int x_25) (C := RX7) (T := TX7) (N := 16) hx hb hU inlX7 hown hK hP mo0 hfo_38 rfl 1 (by decide) (hU _ wd_262) (fun _ h9 => h9) rfl dX7_addLetter_34 ?_
    refine lv_aload_n hx hb dX7_addLetter_37 rfl (lv_at hl 0 rfl) ?_
    refine tk_getP (D := (dC, dI)) (ci := 7) (v := .int x_25) (C := RX7) (T := TX7) (N := 16) hx hb hU inlX7 hown hK hP mo0 hfo_38 rfl 1 (by decide) (hU _ wd_262) (fun _ h9 => h9) rfl dX7_addLetter_38 ?_
    refine lv_iconst (v := 0) hx hb dX7_addLetter_41 (by decide) ?_
    refine lv_iconst (v := 0) hx hb dX7_addLetter_42 (by decide) ?_
    refine tk_VvP (As := [.int x_25, .int x_25, .int 0, .int 0]) (rest := []) (n := 4) hx hb hml hown hU hN hZ (s_X7_keepPair_k207_t l (dC, dI) cI cL cZ cR cG cH Z kd L f_35 hG o0 mo0 ko0 x_25 (by constructor <;> omega) x_25 (by constructor <;> omega) 0 (by decide) 0 (by decide) (by intro w6 w1 e6 e1; rw [hfo_38] at e6 e1; obtain rfl := Option.some.inj e6; obtain rfl := Option.some.inj e1; omega)) wd_357 wd_358 wd_359 wd_28 wd_360 (by decide +kernel) ⟨Nat.le_of_ble_eq_true rfl, Nat.le_of_ble_eq_true rfl⟩ hK hP hD hS mo0 hfo_38 7 rfl rfl rfl hl.1 rfl (Nat.le_of_ble_eq_true rfl) dX7_addLetter_43 ⟨Nat.le_of_ble_eq_true rfl, Nat.le_of_ble_eq_true rfl⟩ (fun f_41 H locs hw hP hD hS => ?_)
    obtain ⟨hG, hkc_42, hfc_43, hfc_44, hrc_45, hrc_46, hrc_47, hpost_48, hxp_49⟩ := hw
    have hfo_51 : f_41 a_13 = .inl (cR, 8, .inr (.inr (.inr (.inr g_23)))) := by rw [hkc_42 a_13 (by rw [ka_13]; decide) (by rw [ka_13]; decide) (by rw [ka_13]; decide) (by rw [ka_13]; decide)]; exact hfo_37
    have hfo_52 : f_41 a_2 = .inl (cI, 26, .inl g_33) := by rw [hkc_42 a_2 (by rw [ka_2]; decide) (by rw [ka_2]; decide) (by rw [ka_2]; decide) (by rw [ka_2]; decide)]; exact hfo_39
    have hfr0 : ∀ b, kd b ≠ 207 → kd b ≠ 566 → kd b ≠ 568 → kd b ≠ 569 → kd b ≠ 572 → f_41 b = f b := fun b q207 q566 q568 q569 q572 => (hkc_42 b q207 q568 q569 q572).trans (hfr0 b q207 q566 q568 q569 q572)
    have hfr207_12 : ∀ b, kd b = 207 → fldI (f_41 b) 12 = fldI (f b) 12 := fun b kb => (hfc_44 b kb).trans (hfr207_12 b kb)
    have hrr207_0 : ∀ b, kd b = 207 → fldR (f_41 b) 0 = fldR (f b) 0 := fun b kb => (hrc_45 b kb).trans (hrr207_0 b kb)
    have hrr207_3 : ∀ b, kd b = 207 → fldR (f_41 b) 3 = fldR (f b) 3 := fun b kb => (hrc_46 b kb).trans (hrr207_3 b kb)
    have hrr207_11 : ∀ b, kd b = 207 → fldR (f_41 b) 11 = fldR (f b) 11 := fun b kb => (hrc_47 b kb).trans (hrr207_11 b kb)
    obtain ⟨a_54, v_55, a_56, a_57, a_58, a_59, v_60, a_61, a_62, a_63, a_64, a_65, v_66, a_67, a_68, a_69, hfo_53, ⟨ma_54, ka_54⟩, bv_55, ⟨ma_56, ka_56⟩, ⟨ma_57, ka_57⟩, ⟨ma_58, ka_58⟩, ⟨ma_59, ka_59⟩, bv_60, ⟨ma_61, ka_61⟩, ⟨ma_62, ka_62⟩, ⟨ma_63, ka_63⟩, ⟨ma_64, ka_64⟩, ⟨ma_65, ka_65⟩, bv_66, ⟨ma_67, ka_67⟩, ⟨ma_68, ka_68⟩, ⟨ma_69, ka_69⟩⟩ := un_207 (hG _ mo0) ko0
    obtain rfl : a_2 = a_54 := by have hk9 := hrr207_0 o0 ko0; rw [hfo_53, hfo_1] at hk9; exact (Option.some.inj hk9).symm
    obtain rfl : a_5 = a_57 := by have hk9 := hrr207_3 o0 ko0; rw [hfo_53, hfo_1] at hk9; exact (Option.some.inj hk9).symm
    obtain rfl : a_13 = a_65 := by have hk9 := hrr207_11 o0 ko0; rw [hfo_53, hfo_1] at hk9; exact (Option.some.inj hk9).symm
    obtain rfl : x_25 = v_55 := by have hk9 := hfc_43 o0 ko0; rw [hfo_53, hfo_38] at hk9; exact (Option.some.inj hk9).symm
    obtain rfl : v_14 = v_66 := by have hk9 := hfc_44 o0 ko0; rw [hfo_53, hfo_38] at hk9; exact (Option.some.inj hk9).symm
    have hqhpost_48 := hpost_48 v_8 v_60 (by rw [hfo_38]; rfl) (by rw [hfo_53]; rfl)
    try rw [ti_0] at hqhpost_48
    obtain ⟨g_71, hfo_70, hbg_71⟩ := un_568 (hG _ ma_5) ka_5
    have hkp := hxp_49 a_5 g_21 g_71 (by rw [hfo_38]; rfl) hfo_36 hfo_70
    exact W.vret hx hb hr (fun t ht hW => ⟨⟨f_41, rfl, ⟨hG, hfr0, hfr207_12, hrr207_0, hrr207_3, hrr207_11, ⟨x_25, v_60, v_14, a_2, a_5, a_13, g_33, g_71, g_23, ⟨ko0, ka_2, ka_5, ka_13⟩, (by rw [hfo_53]; exact ⟨rfl, rfl, rfl, rfl, rfl, rfl⟩), ⟨by rw [hfo_52]; rfl, by rw [hfo_70]; rfl, by rw [hfo_51]; rfl⟩, (by omega), (fun j hj => by rw [eqg_33]; by_cases hji : j = Int32.toNatClampNeg x_32; (· rw [hji, pk_us]; omega); (· rw [pk_un hji]; have h8 := tq5 j hj; omega)), (fun i h1 h2 => by by_cases hi : (i : Int) = x_25.toInt; (· exact hkp.2 (10 * i) (by omega)); (· exact hkp.1 _ (tq6 i h1 (by omega)))), (fun k9 hk9 => by obtain ⟨b, w, w1, w2, w3, w4⟩ := tq7 k9 hk9; exact ⟨b, w, w1, w2, by rw [hfr0 b (by rw [w2]; decide) (by rw [w2]; decide) (by rw [w2]; decide) (by rw [w2]; decide) (by rw [w2]; decide)]; exact w3, by omega⟩)⟩⟩, by rw [ht]; exact hP, va_K.moved hW.alike hK, pl_in hD⟩, hS.F ht⟩) hS.2.2 dX7_addLetter_46
set_option maxHeartbeats 8000000 in
set_option maxRecDepth 100000 in
theorem s_X7_addPair_k207_t (l : Launch) (D : va_G) (cI cL cZ cR cG cH : ClassId) (Z : zT) (kd : Nat → Nat) (L : List Nat) (f : Nat → va_E) (hG : GI (okc cI cL cZ cR cG cH L kd) kd L f) (o0 : Nat) (mo0 : o0 ∈ L) (ko0 : kd o0 = 207) (p1 : Int32) (bp1 : (0 ≤ p1.toInt ∧ p1.toInt ≤ 8)) (p2 : Int32) (bp2 : (0 ≤ p2.toInt ∧ p2.toInt ≤ 8)) (hxtr0 : trel kd 207 566 568 573 204 f o0) : mPI l D cI cL cZ cR cG cH Z yX7_addPair cX7_addPair 4 (some .boolean) 1 24 [.ref o0, .int p1, .int p2] L f (fun (r : Int32) (f9 : Nat → va_E) => GI (okc cI cL cZ cR cG cH L kd) kd L f9 ∧ (0 ≤ r.toInt ∧ r.toInt ≤ 1) ∧ (∀ b, kd b ≠ 207 → kd b ≠ 568 → kd b ≠ 569 → kd b ≠ 570 → kd b ≠ 571 → kd b ≠ 572 → f9 b = f b) ∧ (∀ b, kd b = 207 → fldI (f9 b) 1 = fldI (f b) 1) ∧ (∀ b, kd b = 207 → fldI (f9 b) 12 = fldI (f b) 12) ∧ (∀ b, kd b = 207 → fldR (f9 b) 0 = fldR (f b) 0) ∧ (∀ b, kd b = 207 → fldR (f9 b) 3 = fldR (f b) 3) ∧ (∀ b, kd b = 207 → fldR (f9 b) 11 = fldR (f b) 11) ∧ (∀ (w1 z1 : Int32), fldI (f o0) 1 = some w1 → fldI (f9 o0) 1 = some z1 → z1.toInt = w1.toInt) ∧ (trel kd 207 566 568 573 204 f9 o0)) := by
  obtain ⟨dC, dI⟩ := D
  refine Met.ofW (cc := cX7_addPair) (maxL := 4) (ret := (some .boolean)) (by decide) rfl ?_
  intro p e s m args below meth c s₁ B hml hv
  obtain ⟨rfl, hP, hK, hD0, hN, hZ⟩ := hv
  have hx := B.exec
  have hb := B.bytes
  have hr := B.returns
  have hU : ∀ w ∈ wsU, w.before _ s = true := fun w h => atoms_spec (ws := wU yX7_addPair cX7_addPair 4 (some .boolean)) B.pre w (List.mem_cons_of_mem _ h)
  have hown : s.vm.findClass RX7 = some m.cls := findClass_of_methodNamed B.named
  have hlocks := B.notSynchronized
  have hD := pl_in hD0
  have hS : va_S (fun q => q ∈ L) s.heap s.heap [] := va_S.rf
  have hl := lv_entry ([.ref o0, .int p1, .int p2]) (n := 4) (Nat.le_of_ble_eq_true rfl)
  rw [lg_entry_eq]
  generalize (lg_sl ([.ref o0, .int p1, .int p2]) ++ List.replicate (4 - (lg_sl ([.ref o0, .int p1, .int p2])).length) Slot.unset).toArray = ls at hl ⊢
  have hl : lv_has ls 4 [(0, .ref o0), (1, .int p1), (2, .int p2)] := hl
  have hfr0 : ∀ b, kd b ≠ 207 → kd b ≠ 568 → kd b ≠ 569 → kd b ≠ 570 → kd b ≠ 571 → kd b ≠ 572 → f b = f b := fun _ _ _ _ _ _ _ => rfl
  have hfr207_1 : ∀ b, kd b = 207 → fldI (f b) 1 = fldI (f b) 1 := fun _ _ => rfl
  have hfr207_12 : ∀ b, kd b = 207 → fldI (f b) 12 = fldI (f b) 12 := fun _ _ => rfl
  have hrr207_0 : ∀ b, kd b = 207 → fldR (f b) 0 = fldR (f b) 0 := fun _ _ => rfl
  have hrr207_3 : ∀ b, kd b = 207 → fldR (f b) 3 = fldR (f b) 3 := fun _ _ => rfl
  have hrr207_11 : ∀ b, kd b = 207 → fldR (f b) 11 = fldR (f b) 11 := fun _ _ => rfl
  obtain ⟨a_2, v_3, a_4, a_5, a_6, a_7, v_8, a_9, a_10, a_11, a_12, a_13, v_14, a_15, a_16, a_17, hfo_1, ⟨ma_2, ka_2⟩, bv_3, ⟨ma_4, ka_4⟩, ⟨ma_5, ka_5⟩, ⟨ma_6, ka_6⟩, ⟨ma_7, ka_7⟩, bv_8, ⟨ma_9, ka_9⟩, ⟨ma_10, ka_10⟩, ⟨ma_11, ka_11⟩, ⟨ma_12, ka_12⟩, ⟨ma_13, ka_13⟩, bv_14, ⟨ma_15, ka_15⟩, ⟨ma_16, ka_16⟩, ⟨ma_17, ka_17⟩⟩ := un_207 (hG _ mo0) ko0
  have hT0 := hxtr0
  have hTq := hT0
  obtain ⟨g_19, hfo_18, hbg_19⟩ := un_566 (hG _ ma_2) ka_2
  obtain ⟨g_21, hfo_20, hbg_21⟩ := un_568 (hG _ ma_5) ka_5
  obtain ⟨g_23, hfo_22, hbg_23⟩ := un_573 (hG _ ma_13) ka_13
  obtain ⟨tqn, tqp, tqc, tqs, tqa, tqr, tqg, tqh, tqq, ⟨-, -, -, -⟩, ⟨tqt1, tqt2, tqt3, tqt4, tqt5, tqt6⟩, ⟨tqw1, tqw2, tqw3⟩, tq4, tq5, tq6, tq7⟩ := hTq
  rw [hfo_1] at tqt1 tqt2 tqt3 tqt4 tqt5 tqt6
  obtain rfl := Option.some.inj tqt1
  obtain rfl := Option.some.inj tqt2
  obtain rfl := Option.some.inj tqt3
  obtain rfl := Option.some.inj tqt4
  obtain rfl := Option.some.inj tqt5
  obtain rfl := Option.some.inj tqt6
  rw [hfo_18] at tqw1
  obtain rfl := Option.some.inj tqw1
  rw [hfo_20] at tqw2
  obtain rfl := Option.some.inj tqw2
  rw [hfo_22] at tqw3
  obtain rfl := Option.some.inj tqw3
  refine lv_aload_n hx hb dX7_addPair_0 rfl (lv_at hl 0 rfl) ?_
  refine lv_iload_n hx hb dX7_addPair_1 rfl (lv_at hl 1 rfl) ?_
  refine lv_iload_n hx hb dX7_addPair_2 rfl (lv_at hl 2 rfl) ?_
  refine tk_ViP (As := [.int p1, .int p2]) (rest := []) (n := 2) hx hb hml hown hU hN hZ (s_X7_pairOf_k207 l (dC, dI) cI cL cZ cR cG cH Z kd L f hG o0 mo0 ko0 p1 p2) wd_392 wd_393 wd_394 wd_28 wd_395 (by decide +kernel) ⟨Nat.le_of_ble_eq_true rfl, Nat.le_of_ble_eq_true rfl⟩ hK hP hD hS mo0 hfo_1 7 rfl rfl rfl hl.1 rfl (Nat.le_of_ble_eq_true rfl) dX7_addPair_3 ⟨Nat.le_of_ble_eq_true rfl, Nat.le_of_ble_eq_true rfl⟩ (fun x_24 f_25 H locs hw hP hD hS => ?_)
  obtain ⟨rfl, bx_24⟩ := hw
  refine lv_iconst (v := (-1)) hx hb dX7_addPair_6 (by decide) ?_
  refine lv_icmp_eq (tgt := 12) hx hb dX7_addPair_7 (by decide) (fun c_27 => ?_) (fun c_27 => ?_)
  · skip
    rw [← Int32.toInt_inj, ti_m1] at c_27
    refine lv_aload_n hx hb dX7_addPair_12 rfl (lv_at hl 0 rfl) ?_
    refine tk_getP (D := (dC, dI)) (ci := 7) (v := .int v_8) (C := RX7) (T := TX7) (N := 16) hx hb hU inlX7 hown hK hP mo0 hfo_1 rfl 6 (by decide) (hU _ wd_263) (fun _ h9 => h9) rfl dX7_addPair_13 ?_
    refine lv_aload_n hx hb dX7_addPair_16 rfl (lv_at hl 0 rfl) ?_
    refine tk_getP (D := (dC, dI)) (ci := 7) (v := .int v_3) (C := RX7) (T := TX7) (N := 16) hx hb hU inlX7 hown hK hP mo0 hfo_1 rfl 1 (by decide) (hU _ wd_262) (fun _ h9 => h9) rfl dX7_addPair_17 ?_
    refine lv_isub hx hb dX7_addPair_20 ?_
    refine lv_topi (fun x_28 ex_28 => ?_)
    have hx_28 : x_28.toInt = v_8.toInt - v_3.toInt := by rw [ex_28, sb_I (by omega) (by omega)]
    have bx_28 : ((-8) ≤ x_28.toInt ∧ x_28.toInt ≤ 20) := by constructor <;> omega
    refine lv_bipush (v := 12) hx hb dX7_addPair_21 (by decide) ?_
    refine lv_icmp_lt (tgt := 30) hx hb dX7_addPair_23 (by decide) (fun c_29 => ?_) (fun c_29 => ?_)
    · skip
      rw [Int32.lt_iff_toInt_lt, ti_12] at c_29
      refine lv_iconst (v := 0) hx hb dX7_addPair_30 (by decide) ?_
      refine lv_istore_n (lv' := [(3, .int 0), (0, .ref o0), (1, .int p1), (2, .int p2)]) hx hb dX7_addPair_31 rfl hl (by decide) rfl (fun ls hl => ?_)
      refine lv_iload_n hx hb dX7_addPair_32 rfl (lv_at hl 0 rfl) ?_
      refine lv_if_ne (tgt := 56) hx hb dX7_addPair_33 (by decide) (fun c9 => absurd (by decide) c9) (fun _ => ?_)
      refine lv_aload_n hx hb dX7_addPair_36 rfl (lv_at hl 1 rfl) ?_
      refine tk_getP (D := (dC, dI)) (ci := 7) (v := .ref a_9) (C := RX7) (T := TX7) (N := 16) hx hb hU inlX7 hown hK hP mo0 hfo_1 rfl 7 (by decide) (hU _ wd_77) (fun _ h9 => h9) rfl dX7_addPair_37 ?_
      refine lv_iload_n hx hb dX7_addPair_40 rfl (lv_at hl 2 rfl) ?_
      obtain ⟨g_31, hfo_30, hbg_31⟩ := un_570 (hG _ ma_9) ka_9
      refine tk_ildP hx hb hK hP 0 ma_9 hfo_30 rfl (vp_in_iff.mpr (by constructor <;> omega)) dX7_addPair_41 ?_
      refine lv_topi (fun x_32 ex_32 => ?_)
      have bx_32 : (0 ≤ x_32.toInt ∧ x_32.toInt ≤ 3) := by rw [ex_32]; exact hbg_31 _
      refine lv_iconst (v := 3) hx hb dX7_addPair_42 (by decide) ?_
      refine lv_icmp_ge (tgt := 56) hx hb dX7_addPair_43 (by decide) (fun c_33 => ?_) (fun c_33 => ?_)
      · skip
        rw [Int32.le_iff_toInt_le, ti_3] at c_33
        refine lv_iconst (v := 0) hx hb dX7_addPair_56 (by decide) ?_
        exact W.zret (v := 0) (ty := .boolean) hx hb hr rfl (fun t ht hW => ⟨⟨0, f, rfl, ⟨hG, (by decide), hfr0, hfr207_1, hfr207_12, hrr207_0, hrr207_3, hrr207_11, (by intro w1 z1 e1 d1; rw [hfo_1] at e1; rw [hfo_1] at d1; obtain rfl := Option.some.inj e1; obtain rfl := Option.some.inj d1; (try rw [ti_0]) <;> omega), hT0⟩, by rw [ht]; exact hP, va_K.moved hW.alike hK, pl_in hD⟩, hS.F ht⟩) hS.2.2 dX7_addPair_57
      · skip
        rw [Int32.le_iff_toInt_le, ti_3] at c_33
        refine lv_aload_n hx hb dX7_addPair_46 rfl (lv_at hl 1 rfl) ?_
        refine tk_getP (D := (dC, dI)) (ci := 7) (v := .ref a_10) (C := RX7) (T := TX7) (N := 16) hx hb hU inlX7 hown hK hP mo0 hfo_1 rfl 8 (by decide) (hU _ wd_78) (fun _ h9 => h9) rfl dX7_addPair_47 ?_
        refine lv_iload_n hx hb dX7_addPair_50 rfl (lv_at hl 3 rfl) ?_
        obtain ⟨g_35, hfo_34, hbg_35⟩ := un_571 (hG _ ma_10) ka_10
        refine tk_ildP hx hb hK hP 0 ma_10 hfo_34 rfl (vp_in_iff.mpr (by constructor <;> omega)) dX7_addPair_51 ?_
        refine lv_topi (fun x_36 ex_36 => ?_)
        have bx_36 : (0 ≤ x_36.toInt ∧ x_36.toInt ≤ 3) := by rw [ex_36]; exact hbg_35 _
        refine lv_iconst (v := 3) hx hb dX7_addPair_52 (by decide) ?_
        refine lv_icmp_lt (tgt := 58) hx hb dX7_addPair_53 (by decide) (fun c_37 => ?_) (fun c_37 => ?_)
        · skip
          rw [Int32.lt_iff_toInt_lt, ti_3] at c_37
          refine lv_aload_n hx hb dX7_addPair_58 rfl (lv_at hl 1 rfl) ?_
          refine tk_getP (D := (dC, dI)) (ci := 7) (v := .ref a_9) (C := RX7) (T := TX7) (N := 16) hx hb hU inlX7 hown hK hP mo0 hfo_1 rfl 7 (by decide) (hU _ wd_77) (fun _ h9 => h9) rfl dX7_addPair_59 ?_
          refine lv_iload_n hx hb dX7_addPair_62 rfl (lv_at hl 2 rfl) ?_
          refine lv_dup2_11 hx hb dX7_addPair_63 rfl rfl ?_
          refine tk_ildP hx hb hK hP 0 ma_9 hfo_30 rfl (vp_in_iff.mpr (by constructor <;> omega)) dX7_addPair_64 ?_
          refine tk_topi (y := x_32) ex_32.symm ?_
          refine lv_iconst (v := 1) hx hb dX7_addPair_65 (by decide) ?_
          refine lv_iadd hx hb dX7_addPair_66 ?_
          refine lv_topi (fun x_38 ex_38 => ?_)
          have hx_38 : x_38.toInt = x_32.toInt + 1 := by rw [ex_38, ad_I (by rw [ti_1]; omega) (by rw [ti_1]; omega), ti_1]
          have bx_38 : (1 ≤ x_38.toInt ∧ x_38.toInt ≤ 3) := by constructor <;> omega
          refine tk_istP hx hb hK hP hD hS 0 ma_9 hfo_30 rfl (vp_in_iff.mpr (by constructor <;> omega)) dX7_addPair_67 (fun H locs hP hD hS => ?_)
          obtain ⟨g_39, eqg_39⟩ : ∃ y : Nat → Int32, y = upd g_31 (Int32.toNatClampNeg p1) x_38 := ⟨_, rfl⟩
          rw [← eqg_39] at hP hD
          have hbg_39 : ∀ j, 0 ≤ (g_39 j).toInt ∧ (g_39 j).toInt ≤ 3 := by rw [eqg_39]; exact okI_up hbg_31 (by constructor <;> omega) _
          obtain ⟨f_41, ef_41⟩ : ∃ y : Nat → va_E, y = va_up f a_9 (.inl (cI, 9, .inl g_39)) := ⟨_, rfl⟩
          have hP : va_P (dC, dI) vwCl (va_pl L f_41) H := by rw [ef_41]; exact hP
          have hD : va_D (fun q => q ∈ L) (va_pl L f_41) := by rw [ef_41]; exact hD
          have hG : GI (okc cI cL cZ cR cG cH L kd) kd L f_41 := by rw [ef_41]; exact hG.set a_9 (mk_570 ka_9 ⟨_, rfl, hbg_39⟩)
          have hfo_42 : f_41 o0 = .inr (7, [.ref a_2, .int v_3, .ref a_4, .ref a_5, .ref a_6, .ref a_7, .int v_8, .ref a_9, .ref a_10, .ref a_11, .ref a_12, .ref a_13, .int v_14, .ref a_15, .ref a_16, .ref a_17]) := by rw [ef_41, up_ne (kd_ne ka_9 ko0 (by decide))]; exact hfo_1
          have hfo_43 : f_41 a_2 = .inl (cI, 26, .inl g_19) := by rw [ef_41, up_ne (kd_ne ka_9 ka_2 (by decide))]; exact hfo_18
          have hfo_44 : f_41 a_5 = .inl (cI, 81, .inl g_21) := by rw [ef_41, up_ne (kd_ne ka_9 ka_5 (by decide))]; exact hfo_20
          have hfo_45 : f_41 a_13 = .inl (cR, 8, .inr (.inr (.inr (.inr g_23)))) := by rw [ef_41, up_ne (kd_ne ka_9 ka_13 (by decide))]; exact hfo_22
          have hfo_46 : f_41 a_10 = .inl (cI, 9, .inl g_35) := by rw [ef_41, up_ne (kd_ne ka_9 ka_10 (by decide))]; exact hfo_34
          have hfr0 : ∀ b, kd b ≠ 207 → kd b ≠ 568 → kd b ≠ 569 → kd b ≠ 570 → kd b ≠ 571 → kd b ≠ 572 → f_41 b = f b := fun b q207 q568 q569 q570 q571 q572 => (congrFun ef_41 b).trans ((up_ne (fun e9 => q570 (by rw [e9]; exact ka_9))).trans (hfr0 b q207 q568 q569 q570 q571 q572))
          have hfr207_1 : ∀ b, kd b = 207 → fldI (f_41 b) 1 = fldI (f b) 1 := fun b kb => (congrArg (fun x => fldI x 1) ((congrFun ef_41 b).trans (up_ne (kd_ne ka_9 kb (by decide))))).trans (hfr207_1 b kb)
          have hfr207_12 : ∀ b, kd b = 207 → fldI (f_41 b) 12 = fldI (f b) 12 := fun b kb => (congrArg (fun x => fldI x 12) ((congrFun ef_41 b).trans (up_ne (kd_ne ka_9 kb (by decide))))).trans (hfr207_12 b kb)
          have hrr207_0 : ∀ b, kd b = 207 → fldR (f_41 b) 0 = fldR (f b) 0 := fun b kb => (congrArg (fun x => fldR x 0) ((congrFun ef_41 b).trans (up_ne (kd_ne ka_9 kb (by decide))))).trans (hrr207_0 b kb)
          have hrr207_3 : ∀ b, kd b = 207 → fldR (f_41 b) 3 = fldR (f b) 3 := fun b kb => (congrArg (fun x => fldR x 3) ((congrFun ef_41 b).trans (up_ne (kd_ne ka_9 kb (by decide))))).trans (hrr207_3 b kb)
          have hrr207_11 : ∀ b, kd b = 207 → fldR (f_41 b) 11 = fldR (f b) 11 := fun b kb => (congrArg (fun x => fldR x 11) ((congrFun ef_41 b).trans (up_ne (kd_ne ka_9 kb (by decide))))).trans (hrr207_11 b kb)
          have hT0 : trel kd 207 566 568 573 204 f_41 o0 := by rw [ef_41]; exact hT0.up ka_9 (by decide) (by decide) (by decide) (by decide) (by decide)
          have hfo_47 : f_41 a_9 = .inl (cI, 9, .inl g_39) := by rw [ef_41]; exact up_self
          refine lv_aload_n hx hb dX7_addPair_68 rfl (lv_at hl 1 rfl) ?_
          refine tk_getP (D := (dC, dI)) (ci := 7) (v := .ref a_10) (C := RX7) (T := TX7) (N := 16) hx hb hU inlX7 hown hK hP mo0 hfo_42 rfl 8 (by decide) (hU _ wd_78) (fun _ h9 => h9) rfl dX7_addPair_69 ?_
          refine lv_iload_n hx hb dX7_addPair_72 rfl (lv_at hl 3 rfl) ?_
          refine lv_dup2_11 hx hb dX7_addPair_73 rfl rfl ?_
          refine tk_ildP hx hb hK hP 0 ma_10 hfo_46 rfl (vp_in_iff.mpr (by constructor <;> omega)) dX7_addPair_74 ?_
          refine tk_topi (y := x_36) ex_36.symm ?_
          refine lv_iconst (v := 1) hx hb dX7_addPair_75 (by decide) ?_
          refine lv_iadd hx hb dX7_addPair_76 ?_
          refine lv_topi (fun x_48 ex_48 => ?_)
          have hx_48 : x_48.toInt = x_36.toInt + 1 := by rw [ex_48, ad_I (by rw [ti_1]; omega) (by rw [ti_1]; omega), ti_1]
          have bx_48 : (1 ≤ x_48.toInt ∧ x_48.toInt ≤ 3) := by constructor <;> omega
          refine tk_istP hx hb hK hP hD hS 0 ma_10 hfo_46 rfl (vp_in_iff.mpr (by constructor <;> omega)) dX7_addPair_77 (fun H locs hP hD hS => ?_)
          obtain ⟨g_49, eqg_49⟩ : ∃ y : Nat → Int32, y = upd g_35 (Int32.toNatClampNeg p2) x_48 := ⟨_, rfl⟩
          rw [← eqg_49] at hP hD
          have hbg_49 : ∀ j, 0 ≤ (g_49 j).toInt ∧ (g_49 j).toInt ≤ 3 := by rw [eqg_49]; exact okI_up hbg_35 (by constructor <;> omega) _
          obtain ⟨f_51, ef_51⟩ : ∃ y : Nat → va_E, y = va_up f_41 a_10 (.inl (cI, 9, .inl g_49)) := ⟨_, rfl⟩
          have hP : va_P (dC, dI) vwCl (va_pl L f_51) H := by rw [ef_51]; exact hP
          have hD : va_D (fun q => q ∈ L) (va_pl L f_51) := by rw [ef_51]; exact hD
          have hG : GI (okc cI cL cZ cR cG cH L kd) kd L f_51 := by rw [ef_51]; exact hG.set a_10 (mk_571 ka_10 ⟨_, rfl, hbg_49⟩)
          have hfo_52 : f_51 o0 = .inr (7, [.ref a_2, .int v_3, .ref a_4, .ref a_5, .ref a_6, .ref a_7, .int v_8, .ref a_9, .ref a_10, .ref a_11, .ref a_12, .ref a_13, .int v_14, .ref a_15, .ref a_16, .ref a_17]) := by rw [ef_51, up_ne (kd_ne ka_10 ko0 (by decide))]; exact hfo_42
          have hfo_53 : f_51 a_2 = .inl (cI, 26, .inl g_19) := by rw [ef_51, up_ne (kd_ne ka_10 ka_2 (by decide))]; exact hfo_43
          have hfo_54 : f_51 a_5 = .inl (cI, 81, .inl g_21) := by rw [ef_51, up_ne (kd_ne ka_10 ka_5 (by decide))]; exact hfo_44
          have hfo_55 : f_51 a_13 = .inl (cR, 8, .inr (.inr (.inr (.inr g_23)))) := by rw [ef_51, up_ne (kd_ne ka_10 ka_13 (by decide))]; exact hfo_45
          have hfo_56 : f_51 a_9 = .inl (cI, 9, .inl g_39) := by rw [ef_51, up_ne (kd_ne ka_10 ka_9 (by decide))]; exact hfo_47
          have hfr0 : ∀ b, kd b ≠ 207 → kd b ≠ 568 → kd b ≠ 569 → kd b ≠ 570 → kd b ≠ 571 → kd b ≠ 572 → f_51 b = f b := fun b q207 q568 q569 q570 q571 q572 => (congrFun ef_51 b).trans ((up_ne (fun e9 => q571 (by rw [e9]; exact ka_10))).trans (hfr0 b q207 q568 q569 q570 q571 q572))
          have hfr207_1 : ∀ b, kd b = 207 → fldI (f_51 b) 1 = fldI (f b) 1 := fun b kb => (congrArg (fun x => fldI x 1) ((congrFun ef_51 b).trans (up_ne (kd_ne ka_10 kb (by decide))))).trans (hfr207_1 b kb)
          have hfr207_12 : ∀ b, kd b = 207 → fldI (f_51 b) 12 = fldI (f b) 12 := fun b kb => (congrArg (fun x => fldI x 12) ((congrFun ef_51 b).trans (up_ne (kd_ne ka_10 kb (by decide))))).trans (hfr207_12 b kb)
          have hrr207_0 : ∀ b, kd b = 207 → fldR (f_51 b) 0 = fldR (f b) 0 := fun b kb => (congrArg (fun x => fldR x 0) ((congrFun ef_51 b).trans (up_ne (kd_ne ka_10 kb (by decide))))).trans (hrr207_0 b kb)
          have hrr207_3 : ∀ b, kd b = 207 → fldR (f_51 b) 3 = fldR (f b) 3 := fun b kb => (congrArg (fun x => fldR x 3) ((congrFun ef_51 b).trans (up_ne (kd_ne ka_10 kb (by decide))))).trans (hrr207_3 b kb)
          have hrr207_11 : ∀ b, kd b = 207 → fldR (f_51 b) 11 = fldR (f b) 11 := fun b kb => (congrArg (fun x => fldR x 11) ((congrFun ef_51 b).trans (up_ne (kd_ne ka_10 kb (by decide))))).trans (hrr207_11 b kb)
          have hT0 : trel kd 207 566 568 573 204 f_51 o0 := by rw [ef_51]; exact hT0.up ka_10 (by decide) (by decide) (by decide) (by decide) (by decide)
          have hfo_57 : f_51 a_10 = .inl (cI, 9, .inl g_49) := by rw [ef_51]; exact up_self
          refine lv_aload_n hx hb dX7_addPair_78 rfl (lv_at hl 1 rfl) ?_
          refine lv_iload_n hx hb dX7_addPair_79 rfl (lv_at hl 2 rfl) ?_
          refine lv_iload_n hx hb dX7_addPair_80 rfl (lv_at hl 3 rfl) ?_
          refine lv_aload_n hx hb dX7_addPair_81 rfl (lv_at hl 1 rfl) ?_
          refine tk_getP (D := (dC, dI)) (ci := 7) (v := .ref a_9) (C := RX7) (T := TX7) (N := 16) hx hb hU inlX7 hown hK hP mo0 hfo_52 rfl 7 (by decide) (hU _ wd_77) (fun _ h9 => h9) rfl dX7_addPair_82 ?_
          refine lv_iload_n hx hb dX7_addPair_85 rfl (lv_at hl 2 rfl) ?_
          refine tk_ildP hx hb hK hP 0 ma_9 hfo_56 rfl (vp_in_iff.mpr (by constructor <;> omega)) dX7_addPair_86 ?_
          refine lv_topi (fun x_58 ex_58 => ?_)
          have bx_58 : (0 ≤ x_58.toInt ∧ x_58.toInt ≤ 3) := by rw [ex_58]; exact hbg_39 _
          refine lv_aload_n hx hb dX7_addPair_87 rfl (lv_at hl 1 rfl) ?_
          refine tk_getP (D := (dC, dI)) (ci := 7) (v := .ref a_10) (C := RX7) (T := TX7) (N := 16) hx hb hU inlX7 hown hK hP mo0 hfo_52 rfl 8 (by decide) (hU _ wd_78) (fun _ h9 => h9) rfl dX7_addPair_88 ?_
          refine lv_iload_n hx hb dX7_addPair_91 rfl (lv_at hl 3 rfl) ?_
          refine tk_ildP hx hb hK hP 0 ma_10 hfo_57 rfl (vp_in_iff.mpr (by constructor <;> omega)) dX7_addPair_92 ?_
          refine lv_topi (fun x_59 ex_59 => ?_)
          have bx_59 : (0 ≤ x_59.toInt ∧ x_59.toInt ≤ 3) := by rw [ex_59]; exact hbg_49 _
          refine tk_VvP (As := [.int p1, .int p2, .int x_58, .int x_59]) (rest := []) (n := 4) hx hb hml hown hU hN hZ (s_X7_keepPair_k207_t l (dC, dI) cI cL cZ cR cG cH Z kd L f_51 hG o0 mo0 ko0 p1 (by constructor <;> omega) p2 (by constructor <;> omega) x_58 (by constructor <;> omega) x_59 (by constructor <;> omega) (by intro w6 w1 e6 e1; rw [hfo_52] at e6 e1; obtain rfl := Option.some.inj e6; obtain rfl := Option.some.inj e1; omega)) wd_357 wd_358 wd_359 wd_28 wd_360 (by decide +kernel) ⟨Nat.le_of_ble_eq_true rfl, Nat.le_of_ble_eq_true rfl⟩ hK hP hD hS mo0 hfo_52 7 rfl rfl rfl hl.1 rfl (Nat.le_of_ble_eq_true rfl) dX7_addPair_93 ⟨Nat.le_of_ble_eq_true rfl, Nat.le_of_ble_eq_true rfl⟩ (fun f_61 H locs hw hP hD hS => ?_)
          obtain ⟨hG, hkc_62, hfc_63, hfc_64, hrc_65, hrc_66, hrc_67, hpost_68, hxp_69⟩ := hw
          have hfo_71 : f_61 a_2 = .inl (cI, 26, .inl g_19) := by rw [hkc_62 a_2 (by rw [ka_2]; decide) (by rw [ka_2]; decide) (by rw [ka_2]; decide) (by rw [ka_2]; decide)]; exact hfo_53
          have hfo_72 : f_61 a_13 = .inl (cR, 8, .inr (.inr (.inr (.inr g_23)))) := by rw [hkc_62 a_13 (by rw [ka_13]; decide) (by rw [ka_13]; decide) (by rw [ka_13]; decide) (by rw [ka_13]; decide)]; exact hfo_55
          have hfo_73 : f_61 a_9 = .inl (cI, 9, .inl g_39) := by rw [hkc_62 a_9 (by rw [ka_9]; decide) (by rw [ka_9]; decide) (by rw [ka_9]; decide) (by rw [ka_9]; decide)]; exact hfo_56
          have hfo_74 : f_61 a_10 = .inl (cI, 9, .inl g_49) := by rw [hkc_62 a_10 (by rw [ka_10]; decide) (by rw [ka_10]; decide) (by rw [ka_10]; decide) (by rw [ka_10]; decide)]; exact hfo_57
          have hfr0 : ∀ b, kd b ≠ 207 → kd b ≠ 568 → kd b ≠ 569 → kd b ≠ 570 → kd b ≠ 571 → kd b ≠ 572 → f_61 b = f b := fun b q207 q568 q569 q570 q571 q572 => (hkc_62 b q207 q568 q569 q572).trans (hfr0 b q207 q568 q569 q570 q571 q572)
          have hfr207_1 : ∀ b, kd b = 207 → fldI (f_61 b) 1 = fldI (f b) 1 := fun b kb => (hfc_63 b kb).trans (hfr207_1 b kb)
          have hfr207_12 : ∀ b, kd b = 207 → fldI (f_61 b) 12 = fldI (f b) 12 := fun b kb => (hfc_64 b kb).trans (hfr207_12 b kb)
          have hrr207_0 : ∀ b, kd b = 207 → fldR (f_61 b) 0 = fldR (f b) 0 := fun b kb => (hrc_65 b kb).trans (hrr207_0 b kb)
          have hrr207_3 : ∀ b, kd b = 207 → fldR (f_61 b) 3 = fldR (f b) 3 := fun b kb => (hrc_66 b kb).trans (hrr207_3 b kb)
          have hrr207_11 : ∀ b, kd b = 207 → fldR (f_61 b) 11 = fldR (f b) 11 := fun b kb => (hrc_67 b kb).trans (hrr207_11 b kb)
          obtain ⟨a_76, v_77, a_78, a_79, a_80, a_81, v_82, a_83, a_84, a_85, a_86, a_87, v_88, a_89, a_90, a_91, hfo_75, ⟨ma_76, ka_76⟩, bv_77, ⟨ma_78, ka_78⟩, ⟨ma_79, ka_79⟩, ⟨ma_80, ka_80⟩, ⟨ma_81, ka_81⟩, bv_82, ⟨ma_83, ka_83⟩, ⟨ma_84, ka_84⟩, ⟨ma_85, ka_85⟩, ⟨ma_86, ka_86⟩, ⟨ma_87, ka_87⟩, bv_88, ⟨ma_89, ka_89⟩, ⟨ma_90, ka_90⟩, ⟨ma_91, ka_91⟩⟩ := un_207 (hG _ mo0) ko0
          obtain rfl : a_2 = a_76 := by have hk9 := hrr207_0 o0 ko0; rw [hfo_75, hfo_1] at hk9; exact (Option.some.inj hk9).symm
          obtain rfl : a_5 = a_79 := by have hk9 := hrr207_3 o0 ko0; rw [hfo_75, hfo_1] at hk9; exact (Option.some.inj hk9).symm
          obtain rfl : a_13 = a_87 := by have hk9 := hrr207_11 o0 ko0; rw [hfo_75, hfo_1] at hk9; exact (Option.some.inj hk9).symm
          obtain rfl : v_3 = v_77 := by have hk9 := hfc_63 o0 ko0; rw [hfo_75, hfo_52] at hk9; exact (Option.some.inj hk9).symm
          obtain rfl : v_14 = v_88 := by have hk9 := hfc_64 o0 ko0; rw [hfo_75, hfo_52] at hk9; exact (Option.some.inj hk9).symm
          have hqhpost_68 := hpost_68 v_8 v_82 (by rw [hfo_52]; rfl) (by rw [hfo_75]; rfl)
          obtain ⟨g_93, hfo_92, hbg_93⟩ := un_568 (hG _ ma_5) ka_5
          have hkp := hxp_69 a_5 g_21 g_93 (by rw [hfo_52]; rfl) hfo_54 hfo_92
          refine lv_iconst (v := 1) hx hb dX7_addPair_96 (by decide) ?_
          exact W.zret (v := 1) (ty := .boolean) hx hb hr rfl (fun t ht hW => ⟨⟨1, f_61, rfl, ⟨hG, (by decide), hfr0, hfr207_1, hfr207_12, hrr207_0, hrr207_3, hrr207_11, (by intro w1 z1 e1 d1; rw [hfo_1] at e1; rw [hfo_75] at d1; obtain rfl := Option.some.inj e1; obtain rfl := Option.some.inj d1; (try rw [ti_1]) <;> omega), ⟨v_3, v_82, v_14, a_2, a_5, a_13, g_19, g_93, g_23, ⟨ko0, ka_2, ka_5, ka_13⟩, (by rw [hfo_75]; exact ⟨rfl, rfl, rfl, rfl, rfl, rfl⟩), ⟨by rw [hfo_71]; rfl, by rw [hfo_92]; rfl, by rw [hfo_72]; rfl⟩, (by omega), tq5, (fun i h1 h2 => hkp.1 _ (tq6 i h1 h2)), (fun k9 hk9 => by obtain ⟨b, w, w1, w2, w3, w4⟩ := tq7 k9 hk9; exact ⟨b, w, w1, w2, by rw [hfr0 b (by rw [w2]; decide) (by rw [w2]; decide) (by rw [w2]; decide) (by rw [w2]; decide) (by rw [w2]; decide) (by rw [w2]; decide)]; exact w3, by omega⟩)⟩⟩, by rw [ht]; exact hP, va_K.moved hW.alike hK, pl_in hD⟩, hS.F ht⟩) hS.2.2 dX7_addPair_97
        · skip
          rw [Int32.lt_iff_toInt_lt, ti_3] at c_37
          refine lv_iconst (v := 0) hx hb dX7_addPair_56 (by decide) ?_
          exact W.zret (v := 0) (ty := .boolean) hx hb hr rfl (fun t ht hW => ⟨⟨0, f, rfl, ⟨hG, (by decide), hfr0, hfr207_1, hfr207_12, hrr207_0, hrr207_3, hrr207_11, (by intro w1 z1 e1 d1; rw [hfo_1] at e1; rw [hfo_1] at d1; obtain rfl := Option.some.inj e1; obtain rfl := Option.some.inj d1; (try rw [ti_0]) <;> omega), hT0⟩, by rw [ht]; exact hP, va_K.moved hW.alike hK, pl_in hD⟩, hS.F ht⟩) hS.2.2 dX7_addPair_57
    · skip
      rw [Int32.lt_iff_toInt_lt, ti_12] at c_29
      refine lv_iconst (v := 1) hx hb dX7_addPair_26 (by decide) ?_
      refine lv_goto (tgt := 31) hx hb dX7_addPair_27 (by decide) ?_
      refine lv_istore_n (lv' := [(3, .int 1), (0, .ref o0), (1, .int p1), (2, .int p2)]) hx hb dX7_addPair_31 rfl hl (by decide) rfl (fun ls hl => ?_)
      refine lv_iload_n hx hb dX7_addPair_32 rfl (lv_at hl 0 rfl) ?_
      refine lv_if_ne (tgt := 56) hx hb dX7_addPair_33 (by decide) (fun _ => ?_) (fun c9 => absurd c9 (by decide))
      refine lv_iconst (v := 0) hx hb dX7_addPair_56 (by decide) ?_
      exact W.zret (v := 0) (ty := .boolean) hx hb hr rfl (fun t ht hW => ⟨⟨0, f, rfl, ⟨hG, (by decide), hfr0, hfr207_1, hfr207_12, hrr207_0, hrr207_3, hrr207_11, (by intro w1 z1 e1 d1; rw [hfo_1] at e1; rw [hfo_1] at d1; obtain rfl := Option.some.inj e1; obtain rfl := Option.some.inj d1; (try rw [ti_0]) <;> omega), hT0⟩, by rw [ht]; exact hP, va_K.moved hW.alike hK, pl_in hD⟩, hS.F ht⟩) hS.2.2 dX7_addPair_57
  · skip
    rw [← Int32.toInt_inj, ti_m1] at c_27
    refine lv_iconst (v := 1) hx hb dX7_addPair_10 (by decide) ?_
    exact W.zret (v := 1) (ty := .boolean) hx hb hr rfl (fun t ht hW => ⟨⟨1, f, rfl, ⟨hG, (by decide), hfr0, hfr207_1, hfr207_12, hrr207_0, hrr207_3, hrr207_11, (by intro w1 z1 e1 d1; rw [hfo_1] at e1; rw [hfo_1] at d1; obtain rfl := Option.some.inj e1; obtain rfl := Option.some.inj d1; (try rw [ti_1]) <;> omega), hT0⟩, by rw [ht]; exact hP, va_K.moved hW.alike hK, pl_in hD⟩, hS.F ht⟩) hS.2.2 dX7_addPair_11
set_option maxHeartbeats 8000000 in
set_option maxRecDepth 100000 in
theorem s_X7_signOf_k7_t (l : Launch) (D : va_G) (cI cL cZ cR cG cH : ClassId) (Z : zT) (kd : Nat → Nat) (L : List Nat) (f : Nat → va_E) (hG : GI (okc cI cL cZ cR cG cH L kd) kd L f) (o0 : Nat) (mo0 : o0 ∈ L) (ko0 : kd o0 = 7) (p1 : Int32) (hxtr0 : trel kd 7 508 510 515 4 f o0) : mPI l D cI cL cZ cR cG cH Z yX7_signOf cX7_signOf 2 (some .int) 0 0 [.ref o0, .int p1] L f (fun (r : Int32) (f9 : Nat → va_E) => f = f9 ∧ (0 ≤ r.toInt ∧ r.toInt ≤ 8) ∧ (∀ n9, fldI (f o0) 1 = some n9 → r.toInt ≤ n9.toInt)) := by
  obtain ⟨dC, dI⟩ := D
  refine Met.ofW (cc := cX7_signOf) (maxL := 2) (ret := (some .int)) (by decide) rfl ?_
  intro p e s m args below meth c s₁ B hml hv
  obtain ⟨rfl, hP, hK, hD0, hN, hZ⟩ := hv
  have hx := B.exec
  have hb := B.bytes
  have hr := B.returns
  have hU : ∀ w ∈ wsU, w.before _ s = true := fun w h => atoms_spec (ws := wU yX7_signOf cX7_signOf 2 (some .int)) B.pre w (List.mem_cons_of_mem _ h)
  have hown : s.vm.findClass RX7 = some m.cls := findClass_of_methodNamed B.named
  have hlocks := B.notSynchronized
  have hD := pl_in hD0
  have hS : va_S (fun q => q ∈ L) s.heap s.heap [] := va_S.rf
  have hl := lv_entry ([.ref o0, .int p1]) (n := 2) (Nat.le_of_ble_eq_true rfl)
  rw [lg_entry_eq]
  generalize (lg_sl ([.ref o0, .int p1]) ++ List.replicate (2 - (lg_sl ([.ref o0, .int p1])).length) Slot.unset).toArray = ls at hl ⊢
  have hl : lv_has ls 2 [(0, .ref o0), (1, .int p1)] := hl
  have bp1 : ((-2147483648) ≤ p1.toInt ∧ p1.toInt ≤ 2147483647) := ⟨i32_lo _, i32_hi _⟩
  have hT0 := hxtr0
  have hTq := hT0
  obtain ⟨a_2, v_3, a_4, a_5, a_6, a_7, v_8, a_9, a_10, a_11, a_12, a_13, v_14, a_15, a_16, a_17, hfo_1, ⟨ma_2, ka_2⟩, bv_3, ⟨ma_4, ka_4⟩, ⟨ma_5, ka_5⟩, ⟨ma_6, ka_6⟩, ⟨ma_7, ka_7⟩, bv_8, ⟨ma_9, ka_9⟩, ⟨ma_10, ka_10⟩, ⟨ma_11, ka_11⟩, ⟨ma_12, ka_12⟩, ⟨ma_13, ka_13⟩, bv_14, ⟨ma_15, ka_15⟩, ⟨ma_16, ka_16⟩, ⟨ma_17, ka_17⟩⟩ := un_7 (hG _ mo0) ko0
  obtain ⟨g_19, hfo_18, hbg_19⟩ := un_508 (hG _ ma_2) ka_2
  obtain ⟨g_21, hfo_20, hbg_21⟩ := un_510 (hG _ ma_5) ka_5
  obtain ⟨g_23, hfo_22, hbg_23⟩ := un_515 (hG _ ma_13) ka_13
  obtain ⟨tqn, tqp, tqc, tqs, tqa, tqr, tqg, tqh, tqq, ⟨-, -, -, -⟩, ⟨tqt1, tqt2, tqt3, tqt4, tqt5, tqt6⟩, ⟨tqw1, tqw2, tqw3⟩, tq4, tq5, tq6, tq7⟩ := hTq
  rw [hfo_1] at tqt1 tqt2 tqt3 tqt4 tqt5 tqt6
  obtain rfl := Option.some.inj tqt1
  obtain rfl := Option.some.inj tqt2
  obtain rfl := Option.some.inj tqt3
  obtain rfl := Option.some.inj tqt4
  obtain rfl := Option.some.inj tqt5
  obtain rfl := Option.some.inj tqt6
  rw [hfo_18] at tqw1
  obtain rfl := Option.some.inj tqw1
  rw [hfo_20] at tqw2
  obtain rfl := Option.some.inj tqw2
  rw [hfo_22] at tqw3
  obtain rfl := Option.some.inj tqw3
  refine lv_iload_n hx hb dX7_signOf_0 rfl (lv_at hl 1 rfl) ?_
  refine lv_bipush (v := 97) hx hb dX7_signOf_1 (by decide) ?_
  refine lv_icmp_lt (tgt := 12) hx hb dX7_signOf_3 (by decide) (fun c_24 => ?_) (fun c_24 => ?_)
  · skip
    rw [Int32.lt_iff_toInt_lt, ti_97] at c_24
    refine lv_iconst (v := 0) hx hb dX7_signOf_12 (by decide) ?_
    refine lv_goto (tgt := 25) hx hb dX7_signOf_13 (by decide) ?_
    exact W.iret (v := 0) hx hb hr (fun t ht hW => ⟨⟨0, f, rfl, ⟨rfl, (by decide), (fun n9 h9 => by rw [hfo_1] at h9; obtain rfl := Option.some.inj h9; exact (by rw [show ((0 : Int32)).toInt = 0 from rfl]; omega))⟩, by rw [ht]; exact hP, va_K.moved hW.alike hK, pl_in hD⟩, hS.F ht⟩) hS.2.2 dX7_signOf_25
  · skip
    rw [Int32.lt_iff_toInt_lt, ti_97] at c_24
    refine lv_iload_n hx hb dX7_signOf_6 rfl (lv_at hl 1 rfl) ?_
    refine lv_bipush (v := 122) hx hb dX7_signOf_7 (by decide) ?_
    refine lv_icmp_le (tgt := 16) hx hb dX7_signOf_9 (by decide) (fun c_25 => ?_) (fun c_25 => ?_)
    · skip
      rw [Int32.le_iff_toInt_le, ti_122] at c_25
      refine lv_aload_n hx hb dX7_signOf_16 rfl (lv_at hl 0 rfl) ?_
      refine tk_getP (D := (dC, dI)) (ci := 7) (v := .ref a_2) (C := RX7) (T := TX7) (N := 16) hx hb hU inlX7 hown hK hP mo0 hfo_1 rfl 0 (by decide) (hU _ wd_72) (fun _ h9 => h9) rfl dX7_signOf_17 ?_
      refine lv_iload_n hx hb dX7_signOf_20 rfl (lv_at hl 1 rfl) ?_
      refine lv_bipush (v := 97) hx hb dX7_signOf_21 (by decide) ?_
      refine lv_isub hx hb dX7_signOf_23 ?_
      refine lv_topi (fun x_26 ex_26 => ?_)
      have hx_26 : x_26.toInt = p1.toInt - 97 := by rw [ex_26, sb_I (by rw [ti_97]; omega) (by rw [ti_97]; omega), ti_97]
      have bx_26 : (0 ≤ x_26.toInt ∧ x_26.toInt ≤ 25) := by constructor <;> omega
      refine tk_ildP hx hb hK hP 0 ma_2 hfo_18 rfl (vp_in_iff.mpr (by constructor <;> omega)) dX7_signOf_24 ?_
      refine lv_topi (fun x_27 ex_27 => ?_)
      have bx_27 : (0 ≤ x_27.toInt ∧ x_27.toInt ≤ 8) := by rw [ex_27]; exact hbg_19 _
      exact W.iret (v := x_27) hx hb hr (fun t ht hW => ⟨⟨x_27, f, rfl, ⟨rfl, (by constructor <;> omega), (fun n9 h9 => by rw [hfo_1] at h9; obtain rfl := Option.some.inj h9; exact (by rw [ex_27]; exact tq5 _ (by have hc9 := cl_I (i := x_26) (by omega); omega)))⟩, by rw [ht]; exact hP, va_K.moved hW.alike hK, pl_in hD⟩, hS.F ht⟩) hS.2.2 dX7_signOf_25
    · skip
      rw [Int32.le_iff_toInt_le, ti_122] at c_25
      refine lv_iconst (v := 0) hx hb dX7_signOf_12 (by decide) ?_
      refine lv_goto (tgt := 25) hx hb dX7_signOf_13 (by decide) ?_
      exact W.iret (v := 0) hx hb hr (fun t ht hW => ⟨⟨0, f, rfl, ⟨rfl, (by decide), (fun n9 h9 => by rw [hfo_1] at h9; obtain rfl := Option.some.inj h9; exact (by rw [show ((0 : Int32)).toInt = 0 from rfl]; omega))⟩, by rw [ht]; exact hP, va_K.moved hW.alike hK, pl_in hD⟩, hS.F ht⟩) hS.2.2 dX7_signOf_25
set_option maxHeartbeats 8000000 in
set_option maxRecDepth 100000 in
theorem s_X7_signOf_k207_t (l : Launch) (D : va_G) (cI cL cZ cR cG cH : ClassId) (Z : zT) (kd : Nat → Nat) (L : List Nat) (f : Nat → va_E) (hG : GI (okc cI cL cZ cR cG cH L kd) kd L f) (o0 : Nat) (mo0 : o0 ∈ L) (ko0 : kd o0 = 207) (p1 : Int32) (hxtr0 : trel kd 207 566 568 573 204 f o0) : mPI l D cI cL cZ cR cG cH Z yX7_signOf cX7_signOf 2 (some .int) 0 0 [.ref o0, .int p1] L f (fun (r : Int32) (f9 : Nat → va_E) => f = f9 ∧ (0 ≤ r.toInt ∧ r.toInt ≤ 8) ∧ (∀ n9, fldI (f o0) 1 = some n9 → r.toInt ≤ n9.toInt)) := by
  obtain ⟨dC, dI⟩ := D
  refine Met.ofW (cc := cX7_signOf) (maxL := 2) (ret := (some .int)) (by decide) rfl ?_
  intro p e s m args below meth c s₁ B hml hv
  obtain ⟨rfl, hP, hK, hD0, hN, hZ⟩ := hv
  have hx := B.exec
  have hb := B.bytes
  have hr := B.returns
  have hU : ∀ w ∈ wsU, w.before _ s = true := fun w h => atoms_spec (ws := wU yX7_signOf cX7_signOf 2 (some .int)) B.pre w (List.mem_cons_of_mem _ h)
  have hown : s.vm.findClass RX7 = some m.cls := findClass_of_methodNamed B.named
  have hlocks := B.notSynchronized
  have hD := pl_in hD0
  have hS : va_S (fun q => q ∈ L) s.heap s.heap [] := va_S.rf
  have hl := lv_entry ([.ref o0, .int p1]) (n := 2) (Nat.le_of_ble_eq_true rfl)
  rw [lg_entry_eq]
  generalize (lg_sl ([.ref o0, .int p1]) ++ List.replicate (2 - (lg_sl ([.ref o0, .int p1])).length) Slot.unset).toArray = ls at hl ⊢
  have hl : lv_has ls 2 [(0, .ref o0), (1, .int p1)] := hl
  have bp1 : ((-2147483648) ≤ p1.toInt ∧ p1.toInt ≤ 2147483647) := ⟨i32_lo _, i32_hi _⟩
  have hT0 := hxtr0
  have hTq := hT0
  obtain ⟨a_2, v_3, a_4, a_5, a_6, a_7, v_8, a_9, a_10, a_11, a_12, a_13, v_14, a_15, a_16, a_17, hfo_1, ⟨ma_2, ka_2⟩, bv_3, ⟨ma_4, ka_4⟩, ⟨ma_5, ka_5⟩, ⟨ma_6, ka_6⟩, ⟨ma_7, ka_7⟩, bv_8, ⟨ma_9, ka_9⟩, ⟨ma_10, ka_10⟩, ⟨ma_11, ka_11⟩, ⟨ma_12, ka_12⟩, ⟨ma_13, ka_13⟩, bv_14, ⟨ma_15, ka_15⟩, ⟨ma_16, ka_16⟩, ⟨ma_17, ka_17⟩⟩ := un_207 (hG _ mo0) ko0
  obtain ⟨g_19, hfo_18, hbg_19⟩ := un_566 (hG _ ma_2) ka_2
  obtain ⟨g_21, hfo_20, hbg_21⟩ := un_568 (hG _ ma_5) ka_5
  obtain ⟨g_23, hfo_22, hbg_23⟩ := un_573 (hG _ ma_13) ka_13
  obtain ⟨tqn, tqp, tqc, tqs, tqa, tqr, tqg, tqh, tqq, ⟨-, -, -, -⟩, ⟨tqt1, tqt2, tqt3, tqt4, tqt5, tqt6⟩, ⟨tqw1, tqw2, tqw3⟩, tq4, tq5, tq6, tq7⟩ := hTq
  rw [hfo_1] at tqt1 tqt2 tqt3 tqt4 tqt5 tqt6
  obtain rfl := Option.some.inj tqt1
  obtain rfl := Option.some.inj tqt2
  obtain rfl := Option.some.inj tqt3
  obtain rfl := Option.some.inj tqt4
  obtain rfl := Option.some.inj tqt5
  obtain rfl := Option.some.inj tqt6
  rw [hfo_18] at tqw1
  obtain rfl := Option.some.inj tqw1
  rw [hfo_20] at tqw2
  obtain rfl := Option.some.inj tqw2
  rw [hfo_22] at tqw3
  obtain rfl := Option.some.inj tqw3
  refine lv_iload_n hx hb dX7_signOf_0 rfl (lv_at hl 1 rfl) ?_
  refine lv_bipush (v := 97) hx hb dX7_signOf_1 (by decide) ?_
  refine lv_icmp_lt (tgt := 12) hx hb dX7_signOf_3 (by decide) (fun c_24 => ?_) (fun c_24 => ?_)
  · skip
    rw [Int32.lt_iff_toInt_lt, ti_97] at c_24
    refine lv_iconst (v := 0) hx hb dX7_signOf_12 (by decide) ?_
    refine lv_goto (tgt := 25) hx hb dX7_signOf_13 (by decide) ?_
    exact W.iret (v := 0) hx hb hr (fun t ht hW => ⟨⟨0, f, rfl, ⟨rfl, (by decide), (fun n9 h9 => by rw [hfo_1] at h9; obtain rfl := Option.some.inj h9; exact (by rw [show ((0 : Int32)).toInt = 0 from rfl]; omega))⟩, by rw [ht]; exact hP, va_K.moved hW.alike hK, pl_in hD⟩, hS.F ht⟩) hS.2.2 dX7_signOf_25
  · skip
    rw [Int32.lt_iff_toInt_lt, ti_97] at c_24
    refine lv_iload_n hx hb dX7_signOf_6 rfl (lv_at hl 1 rfl) ?_
    refine lv_bipush (v := 122) hx hb dX7_signOf_7 (by decide) ?_
    refine lv_icmp_le (tgt := 16) hx hb dX7_signOf_9 (by decide) (fun c_25 => ?_) (fun c_25 => ?_)
    · skip
      rw [Int32.le_iff_toInt_le, ti_122] at c_25
      refine lv_aload_n hx hb dX7_signOf_16 rfl (lv_at hl 0 rfl) ?_
      refine tk_getP (D := (dC, dI)) (ci := 7) (v := .ref a_2) (C := RX7) (T := TX7) (N := 16) hx hb hU inlX7 hown hK hP mo0 hfo_1 rfl 0 (by decide) (hU _ wd_72) (fun _ h9 => h9) rfl dX7_signOf_17 ?_
      refine lv_iload_n hx hb dX7_signOf_20 rfl (lv_at hl 1 rfl) ?_
      refine lv_bipush (v := 97) hx hb dX7_signOf_21 (by decide) ?_
      refine lv_isub hx hb dX7_signOf_23 ?_
      refine lv_topi (fun x_26 ex_26 => ?_)
      have hx_26 : x_26.toInt = p1.toInt - 97 := by rw [ex_26, sb_I (by rw [ti_97]; omega) (by rw [ti_97]; omega), ti_97]
      have bx_26 : (0 ≤ x_26.toInt ∧ x_26.toInt ≤ 25) := by constructor <;> omega
      refine tk_ildP hx hb hK hP 0 ma_2 hfo_18 rfl (vp_in_iff.mpr (by constructor <;> omega)) dX7_signOf_24 ?_
      refine lv_topi (fun x_27 ex_27 => ?_)
      have bx_27 : (0 ≤ x_27.toInt ∧ x_27.toInt ≤ 8) := by rw [ex_27]; exact hbg_19 _
      exact W.iret (v := x_27) hx hb hr (fun t ht hW => ⟨⟨x_27, f, rfl, ⟨rfl, (by constructor <;> omega), (fun n9 h9 => by rw [hfo_1] at h9; obtain rfl := Option.some.inj h9; exact (by rw [ex_27]; exact tq5 _ (by have hc9 := cl_I (i := x_26) (by omega); omega)))⟩, by rw [ht]; exact hP, va_K.moved hW.alike hK, pl_in hD⟩, hS.F ht⟩) hS.2.2 dX7_signOf_25
    · skip
      rw [Int32.le_iff_toInt_le, ti_122] at c_25
      refine lv_iconst (v := 0) hx hb dX7_signOf_12 (by decide) ?_
      refine lv_goto (tgt := 25) hx hb dX7_signOf_13 (by decide) ?_
      exact W.iret (v := 0) hx hb hr (fun t ht hW => ⟨⟨0, f, rfl, ⟨rfl, (by decide), (fun n9 h9 => by rw [hfo_1] at h9; obtain rfl := Option.some.inj h9; exact (by rw [show ((0 : Int32)).toInt = 0 from rfl]; omega))⟩, by rw [ht]; exact hP, va_K.moved hW.alike hK, pl_in hD⟩, hS.F ht⟩) hS.2.2 dX7_signOf_25
set_option maxHeartbeats 8000000 in
set_option maxRecDepth 100000 in
theorem s_X2_readLetters_k2 (l : Launch) (D : va_G) (cI cL cZ cR cG cH : ClassId) (Z : zT) (kd : Nat → Nat) (L : List Nat) (f : Nat → va_E) (hG : GI (okc cI cL cZ cR cG cH L kd) kd L f) (o0 : Nat) (mo0 : o0 ∈ L) (ko0 : kd o0 = 2) (hxtr0 : ∀ d9, fldR (f o0) 0 = some d9 → trel kd 207 566 568 573 204 f d9) : mPI l D cI cL cZ cR cG cH Z yX2_readLetters cX2_readLetters 2 (some .boolean) 2 45 [.ref o0] L f (fun (r : Int32) (f9 : Nat → va_E) => GI (okc cI cL cZ cR cG cH L kd) kd L f9 ∧ (0 ≤ r.toInt ∧ r.toInt ≤ 1) ∧ (∀ b, kd b ≠ 2 → kd b ≠ 207 → kd b ≠ 566 → kd b ≠ 568 → kd b ≠ 569 → kd b ≠ 572 → f9 b = f b) ∧ (∀ b, kd b = 2 → fldI (f9 b) 4 = fldI (f b) 4) ∧ (∀ b, kd b = 2 → fldI (f9 b) 7 = fldI (f b) 7) ∧ (∀ b, kd b = 2 → fldI (f9 b) 8 = fldI (f b) 8) ∧ (∀ b, kd b = 207 → fldI (f9 b) 12 = fldI (f b) 12) ∧ (∀ b, kd b = 2 → fldR (f9 b) 0 = fldR (f b) 0) ∧ (∀ b, kd b = 2 → fldR (f9 b) 3 = fldR (f b) 3) ∧ (∀ b, kd b = 207 → fldR (f9 b) 0 = fldR (f b) 0) ∧ (∀ b, kd b = 207 → fldR (f9 b) 3 = fldR (f b) 3) ∧ (∀ b, kd b = 207 → fldR (f9 b) 11 = fldR (f b) 11) ∧ (∀ (w5 z5 : Int32), fldI (f o0) 5 = some w5 → fldI (f9 o0) 5 = some z5 → w5.toInt ≤ z5.toInt) ∧ (∀ d9, fldR (f9 o0) 0 = some d9 → trel kd 207 566 568 573 204 f9 d9)) := by
  obtain ⟨dC, dI⟩ := D
  refine Met.ofW (cc := cX2_readLetters) (maxL := 2) (ret := (some .boolean)) (by decide) rfl ?_
  intro p e s m args below meth c s₁ B hml hv
  obtain ⟨rfl, hP, hK, hD0, hN, hZ⟩ := hv
  have hx := B.exec
  have hb := B.bytes
  have hr := B.returns
  have hU : ∀ w ∈ wsU, w.before _ s = true := fun w h => atoms_spec (ws := wU yX2_readLetters cX2_readLetters 2 (some .boolean)) B.pre w (List.mem_cons_of_mem _ h)
  have hown : s.vm.findClass RX2 = some m.cls := findClass_of_methodNamed B.named
  have hlocks := B.notSynchronized
  have hD := pl_in hD0
  have hS : va_S (fun q => q ∈ L) s.heap s.heap [] := va_S.rf
  have hl := lv_entry ([.ref o0]) (n := 2) (Nat.le_of_ble_eq_true rfl)
  rw [lg_entry_eq]
  generalize (lg_sl ([.ref o0]) ++ List.replicate (2 - (lg_sl ([.ref o0])).length) Slot.unset).toArray = ls at hl ⊢
  have hl : lv_has ls 2 [(0, .ref o0)] := hl
  have hfr0 : ∀ b, kd b ≠ 2 → kd b ≠ 207 → kd b ≠ 566 → kd b ≠ 568 → kd b ≠ 569 → kd b ≠ 572 → f b = f b := fun _ _ _ _ _ _ _ => rfl
  have hfr2_4 : ∀ b, kd b = 2 → fldI (f b) 4 = fldI (f b) 4 := fun _ _ => rfl
  have hfr2_7 : ∀ b, kd b = 2 → fldI (f b) 7 = fldI (f b) 7 := fun _ _ => rfl
  have hfr2_8 : ∀ b, kd b = 2 → fldI (f b) 8 = fldI (f b) 8 := fun _ _ => rfl
  have hfr207_12 : ∀ b, kd b = 207 → fldI (f b) 12 = fldI (f b) 12 := fun _ _ => rfl
  have hrr2_0 : ∀ b, kd b = 2 → fldR (f b) 0 = fldR (f b) 0 := fun _ _ => rfl
  have hrr2_3 : ∀ b, kd b = 2 → fldR (f b) 3 = fldR (f b) 3 := fun _ _ => rfl
  have hrr207_0 : ∀ b, kd b = 207 → fldR (f b) 0 = fldR (f b) 0 := fun _ _ => rfl
  have hrr207_3 : ∀ b, kd b = 207 → fldR (f b) 3 = fldR (f b) 3 := fun _ _ => rfl
  have hrr207_11 : ∀ b, kd b = 207 → fldR (f b) 11 = fldR (f b) 11 := fun _ _ => rfl
  obtain ⟨a_2, v_3, v_4, a_5, v_6, v_7, v_8, v_9, v_10, v_11, hfo_1, ⟨ma_2, ka_2⟩, ⟨ma_5, ka_5⟩, bv_6, bv_7, bv_8, bv_9, bv_10⟩ := un_2 (hG _ mo0) ko0
  have bv_3 : ((-2147483648) ≤ v_3.toInt ∧ v_3.toInt ≤ 2147483647) := ⟨i32_lo _, i32_hi _⟩
  have bv_4 : ((-2147483648) ≤ v_4.toInt ∧ v_4.toInt ≤ 2147483647) := ⟨i32_lo _, i32_hi _⟩
  have bv_11 : ((-2147483648) ≤ v_11.toInt ∧ v_11.toInt ≤ 2147483647) := ⟨i32_lo _, i32_hi _⟩
  have hT0 := hxtr0 a_2 (by rw [hfo_1]; rfl)
  refine lv_iconst (v := 0) hx hb dX2_readLetters_0 (by decide) ?_
  refine lv_istore_n (lv' := [(1, .int 0), (0, .ref o0)]) hx hb dX2_readLetters_1 rfl hl (by decide) rfl (fun ls hl => ?_)
  have hloop_17 : ∀ (n : Nat), ∀ (y_18 : Int32), (0 ≤ y_18.toInt ∧ y_18.toInt ≤ 600) → ∀ (f_20 : Nat → va_E), GI (okc cI cL cZ cR cG cH L kd) kd L f_20 → ∀ (H : Heap) (locs : List Loc), va_P (dC, dI) vwCl (va_pl L f_20) H → va_S (fun q => q ∈ L) s.heap H locs → va_D (fun q => q ∈ L) (va_pl L f_20) → (∀ b, kd b ≠ 2 → kd b ≠ 207 → kd b ≠ 566 → kd b ≠ 568 → kd b ≠ 569 → kd b ≠ 572 → f_20 b = f b) → (∀ b, kd b = 2 → fldI (f_20 b) 4 = fldI (f b) 4) → (∀ b, kd b = 2 → fldI (f_20 b) 7 = fldI (f b) 7) → (∀ b, kd b = 2 → fldI (f_20 b) 8 = fldI (f b) 8) → (∀ b, kd b = 207 → fldI (f_20 b) 12 = fldI (f b) 12) → (∀ b, kd b = 2 → fldR (f_20 b) 0 = fldR (f b) 0) → (∀ b, kd b = 2 → fldR (f_20 b) 3 = fldR (f b) 3) → (∀ b, kd b = 207 → fldR (f_20 b) 0 = fldR (f b) 0) → (∀ b, kd b = 207 → fldR (f_20 b) 3 = fldR (f b) 3) → (∀ b, kd b = 207 → fldR (f_20 b) 11 = fldR (f b) 11) → trel kd 207 566 568 573 204 f_20 a_2 → ∀ (whloop_17_0_5 : Int32), fldI (f_20 o0) 5 = some whloop_17_0_5 → (v_7.toInt ≤ whloop_17_0_5.toInt) → (y_18.toInt ≤ whloop_17_0_5.toInt) → (0 ≤ whloop_17_0_5.toInt ∧ whloop_17_0_5.toInt ≤ 600) → 600 - whloop_17_0_5.toInt < (n : Int) → ∀ (ls : Array Slot), lv_has ls 2 [(1, .int y_18), (0, .ref o0)] → W p l e (headSpec (wU yX2_readLetters cX2_readLetters 2 (some .boolean)) { frames := 2, cells := 0, slots := 0, locals := 45 }).room s m [.ref o0].toArray below meth c H locs 0 0 (MQ below (va_Qi (fun (r : Int32) (f9 : Nat → va_E) => GI (okc cI cL cZ cR cG cH L kd) kd L f9 ∧ (0 ≤ r.toInt ∧ r.toInt ≤ 1) ∧ (∀ b, kd b ≠ 2 → kd b ≠ 207 → kd b ≠ 566 → kd b ≠ 568 → kd b ≠ 569 → kd b ≠ 572 → f9 b = f b) ∧ (∀ b, kd b = 2 → fldI (f9 b) 4 = fldI (f b) 4) ∧ (∀ b, kd b = 2 → fldI (f9 b) 7 = fldI (f b) 7) ∧ (∀ b, kd b = 2 → fldI (f9 b) 8 = fldI (f b) 8) ∧ (∀ b, kd b = 207 → fldI (f9 b) 12 = fldI (f b) 12) ∧ (∀ b, kd b = 2 → fldR (f9 b) 0 = fldR (f b) 0) ∧ (∀ b, kd b = 2 → fldR (f9 b) 3 = fldR (f b) 3) ∧ (∀ b, kd b = 207 → fldR (f9 b) 0 = fldR (f b) 0) ∧ (∀ b, kd b = 207 → fldR (f9 b) 3 = fldR (f b) 3) ∧ (∀ b, kd b = 207 → fldR (f9 b) 11 = fldR (f b) 11) ∧ (∀ (w5 z5 : Int32), fldI (f o0) 5 = some w5 → fldI (f9 o0) 5 = some z5 → w5.toInt ≤ z5.toInt) ∧ (∀ d9, fldR (f9 o0) 0 = some d9 → trel kd 207 566 568 573 204 f9 d9)) (qP (dC, dI) cI cL cZ cR cG cH L) (fun q => q ∈ L)) [.ref o0].toArray s 0 0 (fun q => q ∈ L)) (F0 m 2 ls []) := by
    intro n
    induction n with
    | zero => intro y_18 by_18 f_20 hG H locs hP hS hD hfr0 hfr2_4 hfr2_7 hfr2_8 hfr207_12 hrr2_0 hrr2_3 hrr207_0 hrr207_3 hrr207_11 hT0 whloop_17_0_5 hghloop_17_0_5 hrelhloop_17_0 hrelhloop_17_1 hrelhloop_17_2 hmuhloop_17 ls hl; exfalso; omega
    | succ n ih_hloop_17 =>
      intro y_18 by_18 f_20 hG H locs hP hS hD hfr0 hfr2_4 hfr2_7 hfr2_8 hfr207_12 hrr2_0 hrr2_3 hrr207_0 hrr207_3 hrr207_11 hT0 whloop_17_0_5 hghloop_17_0_5 hrelhloop_17_0 hrelhloop_17_1 hrelhloop_17_2 hmuhloop_17 ls hl
      obtain ⟨a_22, v_23, v_24, a_25, v_26, v_27, v_28, v_29, v_30, v_31, hfo_21, ⟨ma_22, ka_22⟩, ⟨ma_25, ka_25⟩, bv_26, bv_27, bv_28, bv_29, bv_30⟩ := un_2 (hG _ mo0) ko0
      have bv_23 : ((-2147483648) ≤ v_23.toInt ∧ v_23.toInt ≤ 2147483647) := ⟨i32_lo _, i32_hi _⟩
      have bv_24 : ((-2147483648) ≤ v_24.toInt ∧ v_24.toInt ≤ 2147483647) := ⟨i32_lo _, i32_hi _⟩
      have bv_31 : ((-2147483648) ≤ v_31.toInt ∧ v_31.toInt ≤ 2147483647) := ⟨i32_lo _, i32_hi _⟩
      obtain rfl : a_2 = a_22 := by have hk9 := hrr2_0 o0 ko0; rw [hfo_21, hfo_1] at hk9; exact (Option.some.inj hk9).symm
      obtain rfl : a_5 = a_25 := by have hk9 := hrr2_3 o0 ko0; rw [hfo_21, hfo_1] at hk9; exact (Option.some.inj hk9).symm
      obtain rfl : v_27 = whloop_17_0_5 := by rw [hfo_21] at hghloop_17_0_5; exact Option.some.inj hghloop_17_0_5
      refine lv_aload_n hx hb dX2_readLetters_2 rfl (lv_at hl 1 rfl) ?_
      refine tk_getP (D := (dC, dI)) (ci := 2) (v := .int v_27) (C := RX2) (T := TX2) (N := 10) hx hb hU inlX2 hown hK hP mo0 hfo_21 rfl 5 (by decide) (hU _ wd_256) (fun _ h9 => h9) rfl dX2_readLetters_3 ?_
      refine lv_aload_n hx hb dX2_readLetters_6 rfl (lv_at hl 1 rfl) ?_
      refine tk_getP (D := (dC, dI)) (ci := 2) (v := .int v_26) (C := RX2) (T := TX2) (N := 10) hx hb hU inlX2 hown hK hP mo0 hfo_21 rfl 4 (by decide) (hU _ wd_251) (fun _ h9 => h9) rfl dX2_readLetters_7 ?_
      refine lv_icmp_ge (tgt := 106) hx hb dX2_readLetters_10 (by decide) (fun c_32 => ?_) (fun c_32 => ?_)
      · skip
        rw [Int32.le_iff_toInt_le] at c_32
        refine lv_iload_n hx hb dX2_readLetters_106 rfl (lv_at hl 0 rfl) ?_
        refine lv_if_gt (tgt := 122) hx hb dX2_readLetters_107 (by decide) (fun c_33 => ?_) (fun c_33 => ?_)
        · skip
          rw [Int32.lt_iff_toInt_lt, ti_0] at c_33
          refine lv_iconst (v := 1) hx hb dX2_readLetters_122 (by decide) ?_
          refine lv_goto (tgt := 127) hx hb dX2_readLetters_123 (by decide) ?_
          exact W.zret (v := 1) (ty := .boolean) hx hb hr rfl (fun t ht hW => ⟨⟨1, f_20, rfl, ⟨hG, (by decide), hfr0, hfr2_4, hfr2_7, hfr2_8, hfr207_12, hrr2_0, hrr2_3, hrr207_0, hrr207_3, hrr207_11, (by intro w5 z5 e5 d5; rw [hfo_1] at e5; rw [hfo_21] at d5; obtain rfl := Option.some.inj e5; obtain rfl := Option.some.inj d5; (try rw [ti_1]) <;> omega), (fun d9 h9 => by rw [hfo_21] at h9; obtain rfl := Option.some.inj h9; exact hT0)⟩, by rw [ht]; exact hP, va_K.moved hW.alike hK, pl_in hD⟩, hS.F ht⟩) hS.2.2 dX2_readLetters_127
        · skip
          rw [Int32.lt_iff_toInt_lt, ti_0] at c_33
          refine lv_aload_n hx hb dX2_readLetters_110 rfl (lv_at hl 1 rfl) ?_
          refine lv_iconst (v := 1) hx hb dX2_readLetters_111 (by decide) ?_
          refine lv_aload_n hx hb dX2_readLetters_112 rfl (lv_at hl 1 rfl) ?_
          refine tk_getP (D := (dC, dI)) (ci := 2) (v := .int v_27) (C := RX2) (T := TX2) (N := 10) hx hb hU inlX2 hown hK hP mo0 hfo_21 rfl 5 (by decide) (hU _ wd_256) (fun _ h9 => h9) rfl dX2_readLetters_113 ?_
          refine tk_ViP (As := [.int 1, .int v_27]) (rest := []) (n := 2) hx hb hml hown hU hN hZ (s_X2_fail_k2 l (dC, dI) cI cL cZ cR cG cH Z kd L f_20 hG o0 mo0 ko0 1 v_27) wd_349 wd_350 wd_351 wd_33 wd_352 (by decide +kernel) ⟨Nat.le_of_ble_eq_true rfl, Nat.le_of_ble_eq_true rfl⟩ hK hP hD hS mo0 hfo_21 2 rfl rfl rfl hl.1 rfl (Nat.le_of_ble_eq_true rfl) dX2_readLetters_116 ⟨Nat.le_of_ble_eq_true rfl, Nat.le_of_ble_eq_true rfl⟩ (fun x_34 f_35 H locs hw hP hD hS => ?_)
          obtain ⟨hG, bx_34, hkc_36, hfc_37, hfc_38, hfc_39, hfc_40, hrc_41, hrc_42⟩ := hw
          have hfr0 : ∀ b, kd b ≠ 2 → kd b ≠ 207 → kd b ≠ 566 → kd b ≠ 568 → kd b ≠ 569 → kd b ≠ 572 → f_35 b = f b := fun b q2 q207 q566 q568 q569 q572 => (hkc_36 b q2).trans (hfr0 b q2 q207 q566 q568 q569 q572)
          have hfr2_4 : ∀ b, kd b = 2 → fldI (f_35 b) 4 = fldI (f b) 4 := fun b kb => (hfc_37 b kb).trans (hfr2_4 b kb)
          have hfr2_7 : ∀ b, kd b = 2 → fldI (f_35 b) 7 = fldI (f b) 7 := fun b kb => (hfc_39 b kb).trans (hfr2_7 b kb)
          have hfr2_8 : ∀ b, kd b = 2 → fldI (f_35 b) 8 = fldI (f b) 8 := fun b kb => (hfc_40 b kb).trans (hfr2_8 b kb)
          have hfr207_12 : ∀ b, kd b = 207 → fldI (f_35 b) 12 = fldI (f b) 12 := fun b kb => (congrArg (fun x => fldI x 12) (hkc_36 b (by rw [kb]; decide))).trans (hfr207_12 b kb)
          have hrr2_0 : ∀ b, kd b = 2 → fldR (f_35 b) 0 = fldR (f b) 0 := fun b kb => (hrc_41 b kb).trans (hrr2_0 b kb)
          have hrr2_3 : ∀ b, kd b = 2 → fldR (f_35 b) 3 = fldR (f b) 3 := fun b kb => (hrc_42 b kb).trans (hrr2_3 b kb)
          have hrr207_0 : ∀ b, kd b = 207 → fldR (f_35 b) 0 = fldR (f b) 0 := fun b kb => (congrArg (fun x => fldR x 0) (hkc_36 b (by rw [kb]; decide))).trans (hrr207_0 b kb)
          have hrr207_3 : ∀ b, kd b = 207 → fldR (f_35 b) 3 = fldR (f b) 3 := fun b kb => (congrArg (fun x => fldR x 3) (hkc_36 b (by rw [kb]; decide))).trans (hrr207_3 b kb)
          have hrr207_11 : ∀ b, kd b = 207 → fldR (f_35 b) 11 = fldR (f b) 11 := fun b kb => (congrArg (fun x => fldR x 11) (hkc_36 b (by rw [kb]; decide))).trans (hrr207_11 b kb)
          have hT0 : trel kd 207 566 568 573 204 f_35 a_2 := hT0.keep (fun b q => hkc_36 b (by rw [q]; decide)) (fun b q => hkc_36 b (by rw [q]; decide)) (fun b q => hkc_36 b (by rw [q]; decide)) (fun b q => hkc_36 b (by rw [q]; decide)) (fun b q => congrArg (fun x => fldI x 1) (hkc_36 b (by rw [q]; decide)))
          obtain ⟨a_45, v_46, v_47, a_48, v_49, v_50, v_51, v_52, v_53, v_54, hfo_44, ⟨ma_45, ka_45⟩, ⟨ma_48, ka_48⟩, bv_49, bv_50, bv_51, bv_52, bv_53⟩ := un_2 (hG _ mo0) ko0
          have bv_46 : ((-2147483648) ≤ v_46.toInt ∧ v_46.toInt ≤ 2147483647) := ⟨i32_lo _, i32_hi _⟩
          have bv_47 : ((-2147483648) ≤ v_47.toInt ∧ v_47.toInt ≤ 2147483647) := ⟨i32_lo _, i32_hi _⟩
          have bv_54 : ((-2147483648) ≤ v_54.toInt ∧ v_54.toInt ≤ 2147483647) := ⟨i32_lo _, i32_hi _⟩
          obtain rfl : a_2 = a_45 := by have hk9 := hrr2_0 o0 ko0; rw [hfo_44, hfo_1] at hk9; exact (Option.some.inj hk9).symm
          obtain rfl : a_5 = a_48 := by have hk9 := hrr2_3 o0 ko0; rw [hfo_44, hfo_1] at hk9; exact (Option.some.inj hk9).symm
          obtain rfl : v_26 = v_49 := by have hk9 := hfc_37 o0 ko0; rw [hfo_44, hfo_21] at hk9; exact (Option.some.inj hk9).symm
          obtain rfl : v_27 = v_50 := by have hk9 := hfc_38 o0 ko0; rw [hfo_44, hfo_21] at hk9; exact (Option.some.inj hk9).symm
          obtain rfl : v_29 = v_52 := by have hk9 := hfc_39 o0 ko0; rw [hfo_44, hfo_21] at hk9; exact (Option.some.inj hk9).symm
          obtain rfl : v_30 = v_53 := by have hk9 := hfc_40 o0 ko0; rw [hfo_44, hfo_21] at hk9; exact (Option.some.inj hk9).symm
          refine lv_if_eq (tgt := 126) hx hb dX2_readLetters_119 (by decide) (fun c_55 => ?_) (fun c_55 => ?_)
          · skip
            rw [← Int32.toInt_inj, ti_0] at c_55
            refine lv_iconst (v := 0) hx hb dX2_readLetters_126 (by decide) ?_
            exact W.zret (v := 0) (ty := .boolean) hx hb hr rfl (fun t ht hW => ⟨⟨0, f_35, rfl, ⟨hG, (by decide), hfr0, hfr2_4, hfr2_7, hfr2_8, hfr207_12, hrr2_0, hrr2_3, hrr207_0, hrr207_3, hrr207_11, (by intro w5 z5 e5 d5; rw [hfo_1] at e5; rw [hfo_44] at d5; obtain rfl := Option.some.inj e5; obtain rfl := Option.some.inj d5; (try rw [ti_0]) <;> omega), (fun d9 h9 => by rw [hfo_44] at h9; obtain rfl := Option.some.inj h9; exact hT0)⟩, by rw [ht]; exact hP, va_K.moved hW.alike hK, pl_in hD⟩, hS.F ht⟩) hS.2.2 dX2_readLetters_127
          · skip
            rw [← Int32.toInt_inj, ti_0] at c_55
            exfalso
            omega
      · skip
        rw [Int32.le_iff_toInt_le] at c_32
        refine lv_aload_n hx hb dX2_readLetters_13 rfl (lv_at hl 1 rfl) ?_
        refine tk_ViP (As := []) (rest := []) (n := 0) hx hb hml hown hU hN hZ (s_X2_peek_k2 l (dC, dI) cI cL cZ cR cG cH Z kd L f_20 hG o0 mo0 ko0) wd_274 wd_275 wd_276 wd_33 wd_277 (by decide +kernel) ⟨Nat.le_of_ble_eq_true rfl, Nat.le_of_ble_eq_true rfl⟩ hK hP hD hS mo0 hfo_21 2 rfl rfl rfl hl.1 rfl (Nat.le_of_ble_eq_true rfl) dX2_readLetters_14 ⟨Nat.le_of_ble_eq_true rfl, Nat.le_of_ble_eq_true rfl⟩ (fun x_56 f_57 H locs hw hP hD hS => ?_)
        obtain ⟨hG, bx_56, hkc_58, hfc_59, hfc_60, hfc_61, hrc_62, hrc_63, hpost_64, hxp_65⟩ := hw
        have hfr0 : ∀ b, kd b ≠ 2 → kd b ≠ 207 → kd b ≠ 566 → kd b ≠ 568 → kd b ≠ 569 → kd b ≠ 572 → f_57 b = f b := fun b q2 q207 q566 q568 q569 q572 => (hkc_58 b q2).trans (hfr0 b q2 q207 q566 q568 q569 q572)
        have hfr2_4 : ∀ b, kd b = 2 → fldI (f_57 b) 4 = fldI (f b) 4 := fun b kb => (hfc_59 b kb).trans (hfr2_4 b kb)
        have hfr2_7 : ∀ b, kd b = 2 → fldI (f_57 b) 7 = fldI (f b) 7 := fun b kb => (hfc_60 b kb).trans (hfr2_7 b kb)
        have hfr2_8 : ∀ b, kd b = 2 → fldI (f_57 b) 8 = fldI (f b) 8 := fun b kb => (hfc_61 b kb).trans (hfr2_8 b kb)
        have hfr207_12 : ∀ b, kd b = 207 → fldI (f_57 b) 12 = fldI (f b) 12 := fun b kb => (congrArg (fun x => fldI x 12) (hkc_58 b (by rw [kb]; decide))).trans (hfr207_12 b kb)
        have hrr2_0 : ∀ b, kd b = 2 → fldR (f_57 b) 0 = fldR (f b) 0 := fun b kb => (hrc_62 b kb).trans (hrr2_0 b kb)
        have hrr2_3 : ∀ b, kd b = 2 → fldR (f_57 b) 3 = fldR (f b) 3 := fun b kb => (hrc_63 b kb).trans (hrr2_3 b kb)
        have hrr207_0 : ∀ b, kd b = 207 → fldR (f_57 b) 0 = fldR (f b) 0 := fun b kb => (congrArg (fun x => fldR x 0) (hkc_58 b (by rw [kb]; decide))).trans (hrr207_0 b kb)
        have hrr207_3 : ∀ b, kd b = 207 → fldR (f_57 b) 3 = fldR (f b) 3 := fun b kb => (congrArg (fun x => fldR x 3) (hkc_58 b (by rw [kb]; decide))).trans (hrr207_3 b kb)
        have hrr207_11 : ∀ b, kd b = 207 → fldR (f_57 b) 11 = fldR (f b) 11 := fun b kb => (congrArg (fun x => fldR x 11) (hkc_58 b (by rw [kb]; decide))).trans (hrr207_11 b kb)
        have hT0 : trel kd 207 566 568 573 204 f_57 a_2 := hT0.keep (fun b q => hkc_58 b (by rw [q]; decide)) (fun b q => hkc_58 b (by rw [q]; decide)) (fun b q => hkc_58 b (by rw [q]; decide)) (fun b q => hkc_58 b (by rw [q]; decide)) (fun b q => congrArg (fun x => fldI x 1) (hkc_58 b (by rw [q]; decide)))
        obtain ⟨a_68, v_69, v_70, a_71, v_72, v_73, v_74, v_75, v_76, v_77, hfo_67, ⟨ma_68, ka_68⟩, ⟨ma_71, ka_71⟩, bv_72, bv_73, bv_74, bv_75, bv_76⟩ := un_2 (hG _ mo0) ko0
        have bv_69 : ((-2147483648) ≤ v_69.toInt ∧ v_69.toInt ≤ 2147483647) := ⟨i32_lo _, i32_hi _⟩
        have bv_70 : ((-2147483648) ≤ v_70.toInt ∧ v_70.toInt ≤ 2147483647) := ⟨i32_lo _, i32_hi _⟩
        have bv_77 : ((-2147483648) ≤ v_77.toInt ∧ v_77.toInt ≤ 2147483647) := ⟨i32_lo _, i32_hi _⟩
        obtain rfl : a_2 = a_68 := by have hk9 := hrr2_0 o0 ko0; rw [hfo_67, hfo_1] at hk9; exact (Option.some.inj hk9).symm
        obtain rfl : a_5 = a_71 := by have hk9 := hrr2_3 o0 ko0; rw [hfo_67, hfo_1] at hk9; exact (Option.some.inj hk9).symm
        obtain rfl : v_26 = v_72 := by have hk9 := hfc_59 o0 ko0; rw [hfo_67, hfo_21] at hk9; exact (Option.some.inj hk9).symm
        obtain rfl : v_29 = v_75 := by have hk9 := hfc_60 o0 ko0; rw [hfo_67, hfo_21] at hk9; exact (Option.some.inj hk9).symm
        obtain rfl : v_30 = v_76 := by have hk9 := hfc_61 o0 ko0; rw [hfo_67, hfo_21] at hk9; exact (Option.some.inj hk9).symm
        have hqhpost_64 := hpost_64 v_27 v_73 (by rw [hfo_21]; rfl) (by rw [hfo_67]; rfl)
        obtain ⟨g_79, hfo_78, hbg_79⟩ := un_533 (hG _ ma_5) ka_5
        have hpkx_56 := hxp_65 a_5 g_79 v_73 (by rw [hfo_67]; rfl) hfo_78 (by rw [hfo_67]; rfl)
        refine tk_SiP (As := [.int x_56]) (rest := []) (n := 1) hx hb hml hown hU hN hZ (s_X2_isSmall l (dC, dI) cI cL cZ cR cG cH Z kd L f_57 hG x_56) wd_284 wd_285 wd_33 wd_286 (by decide +kernel) ⟨Nat.le_of_ble_eq_true rfl, Nat.le_of_ble_eq_true rfl⟩ hK hP hD hS rfl hl.1 rfl (Nat.le_of_ble_eq_true rfl) dX2_readLetters_17 ⟨Nat.le_of_ble_eq_true rfl, Nat.le_of_ble_eq_true rfl⟩ (fun x_80 f_81 H locs hw hP hD hS => ?_)
        obtain ⟨rfl, bx_80, relx_80⟩ := hw
        refine lv_if_eq (tgt := 106) hx hb dX2_readLetters_20 (by decide) (fun c_83 => ?_) (fun c_83 => ?_)
        · skip
          rw [← Int32.toInt_inj, ti_0] at c_83
          refine lv_iload_n hx hb dX2_readLetters_106 rfl (lv_at hl 0 rfl) ?_
          refine lv_if_gt (tgt := 122) hx hb dX2_readLetters_107 (by decide) (fun c_84 => ?_) (fun c_84 => ?_)
          · skip
            rw [Int32.lt_iff_toInt_lt, ti_0] at c_84
            refine lv_iconst (v := 1) hx hb dX2_readLetters_122 (by decide) ?_
            refine lv_goto (tgt := 127) hx hb dX2_readLetters_123 (by decide) ?_
            exact W.zret (v := 1) (ty := .boolean) hx hb hr rfl (fun t ht hW => ⟨⟨1, f_57, rfl, ⟨hG, (by decide), hfr0, hfr2_4, hfr2_7, hfr2_8, hfr207_12, hrr2_0, hrr2_3, hrr207_0, hrr207_3, hrr207_11, (by intro w5 z5 e5 d5; rw [hfo_1] at e5; rw [hfo_67] at d5; obtain rfl := Option.some.inj e5; obtain rfl := Option.some.inj d5; (try rw [ti_1]) <;> omega), (fun d9 h9 => by rw [hfo_67] at h9; obtain rfl := Option.some.inj h9; exact hT0)⟩, by rw [ht]; exact hP, va_K.moved hW.alike hK, pl_in hD⟩, hS.F ht⟩) hS.2.2 dX2_readLetters_127
          · skip
            rw [Int32.lt_iff_toInt_lt, ti_0] at c_84
            refine lv_aload_n hx hb dX2_readLetters_110 rfl (lv_at hl 1 rfl) ?_
            refine lv_iconst (v := 1) hx hb dX2_readLetters_111 (by decide) ?_
            refine lv_aload_n hx hb dX2_readLetters_112 rfl (lv_at hl 1 rfl) ?_
            refine tk_getP (D := (dC, dI)) (ci := 2) (v := .int v_73) (C := RX2) (T := TX2) (N := 10) hx hb hU inlX2 hown hK hP mo0 hfo_67 rfl 5 (by decide) (hU _ wd_256) (fun _ h9 => h9) rfl dX2_readLetters_113 ?_
            refine tk_ViP (As := [.int 1, .int v_73]) (rest := []) (n := 2) hx hb hml hown hU hN hZ (s_X2_fail_k2 l (dC, dI) cI cL cZ cR cG cH Z kd L f_57 hG o0 mo0 ko0 1 v_73) wd_349 wd_350 wd_351 wd_33 wd_352 (by decide +kernel) ⟨Nat.le_of_ble_eq_true rfl, Nat.le_of_ble_eq_true rfl⟩ hK hP hD hS mo0 hfo_67 2 rfl rfl rfl hl.1 rfl (Nat.le_of_ble_eq_true rfl) dX2_readLetters_116 ⟨Nat.le_of_ble_eq_true rfl, Nat.le_of_ble_eq_true rfl⟩ (fun x_85 f_86 H locs hw hP hD hS => ?_)
            obtain ⟨hG, bx_85, hkc_87, hfc_88, hfc_89, hfc_90, hfc_91, hrc_92, hrc_93⟩ := hw
            have hfo_95 : f_86 a_5 = .inl (cI, 600, .inl g_79) := by rw [hkc_87 a_5 (by rw [ka_5]; decide)]; exact hfo_78
            have hfr0 : ∀ b, kd b ≠ 2 → kd b ≠ 207 → kd b ≠ 566 → kd b ≠ 568 → kd b ≠ 569 → kd b ≠ 572 → f_86 b = f b := fun b q2 q207 q566 q568 q569 q572 => (hkc_87 b q2).trans (hfr0 b q2 q207 q566 q568 q569 q572)
            have hfr2_4 : ∀ b, kd b = 2 → fldI (f_86 b) 4 = fldI (f b) 4 := fun b kb => (hfc_88 b kb).trans (hfr2_4 b kb)
            have hfr2_7 : ∀ b, kd b = 2 → fldI (f_86 b) 7 = fldI (f b) 7 := fun b kb => (hfc_90 b kb).trans (hfr2_7 b kb)
            have hfr2_8 : ∀ b, kd b = 2 → fldI (f_86 b) 8 = fldI (f b) 8 := fun b kb => (hfc_91 b kb).trans (hfr2_8 b kb)
            have hfr207_12 : ∀ b, kd b = 207 → fldI (f_86 b) 12 = fldI (f b) 12 := fun b kb => (congrArg (fun x => fldI x 12) (hkc_87 b (by rw [kb]; decide))).trans (hfr207_12 b kb)
            have hrr2_0 : ∀ b, kd b = 2 → fldR (f_86 b) 0 = fldR (f b) 0 := fun b kb => (hrc_92 b kb).trans (hrr2_0 b kb)
            have hrr2_3 : ∀ b, kd b = 2 → fldR (f_86 b) 3 = fldR (f b) 3 := fun b kb => (hrc_93 b kb).trans (hrr2_3 b kb)
            have hrr207_0 : ∀ b, kd b = 207 → fldR (f_86 b) 0 = fldR (f b) 0 := fun b kb => (congrArg (fun x => fldR x 0) (hkc_87 b (by rw [kb]; decide))).trans (hrr207_0 b kb)
            have hrr207_3 : ∀ b, kd b = 207 → fldR (f_86 b) 3 = fldR (f b) 3 := fun b kb => (congrArg (fun x => fldR x 3) (hkc_87 b (by rw [kb]; decide))).trans (hrr207_3 b kb)
            have hrr207_11 : ∀ b, kd b = 207 → fldR (f_86 b) 11 = fldR (f b) 11 := fun b kb => (congrArg (fun x => fldR x 11) (hkc_87 b (by rw [kb]; decide))).trans (hrr207_11 b kb)
            have hT0 : trel kd 207 566 568 573 204 f_86 a_2 := hT0.keep (fun b q => hkc_87 b (by rw [q]; decide)) (fun b q => hkc_87 b (by rw [q]; decide)) (fun b q => hkc_87 b (by rw [q]; decide)) (fun b q => hkc_87 b (by rw [q]; decide)) (fun b q => congrArg (fun x => fldI x 1) (hkc_87 b (by rw [q]; decide)))
            obtain ⟨a_97, v_98, v_99, a_100, v_101, v_102, v_103, v_104, v_105, v_106, hfo_96, ⟨ma_97, ka_97⟩, ⟨ma_100, ka_100⟩, bv_101, bv_102, bv_103, bv_104, bv_105⟩ := un_2 (hG _ mo0) ko0
            have bv_98 : ((-2147483648) ≤ v_98.toInt ∧ v_98.toInt ≤ 2147483647) := ⟨i32_lo _, i32_hi _⟩
            have bv_99 : ((-2147483648) ≤ v_99.toInt ∧ v_99.toInt ≤ 2147483647) := ⟨i32_lo _, i32_hi _⟩
            have bv_106 : ((-2147483648) ≤ v_106.toInt ∧ v_106.toInt ≤ 2147483647) := ⟨i32_lo _, i32_hi _⟩
            obtain rfl : a_2 = a_97 := by have hk9 := hrr2_0 o0 ko0; rw [hfo_96, hfo_1] at hk9; exact (Option.some.inj hk9).symm
            obtain rfl : a_5 = a_100 := by have hk9 := hrr2_3 o0 ko0; rw [hfo_96, hfo_1] at hk9; exact (Option.some.inj hk9).symm
            obtain rfl : v_26 = v_101 := by have hk9 := hfc_88 o0 ko0; rw [hfo_96, hfo_67] at hk9; exact (Option.some.inj hk9).symm
            obtain rfl : v_73 = v_102 := by have hk9 := hfc_89 o0 ko0; rw [hfo_96, hfo_67] at hk9; exact (Option.some.inj hk9).symm
            obtain rfl : v_29 = v_104 := by have hk9 := hfc_90 o0 ko0; rw [hfo_96, hfo_67] at hk9; exact (Option.some.inj hk9).symm
            obtain rfl : v_30 = v_105 := by have hk9 := hfc_91 o0 ko0; rw [hfo_96, hfo_67] at hk9; exact (Option.some.inj hk9).symm
            refine lv_if_eq (tgt := 126) hx hb dX2_readLetters_119 (by decide) (fun c_107 => ?_) (fun c_107 => ?_)
            · skip
              rw [← Int32.toInt_inj, ti_0] at c_107
              refine lv_iconst (v := 0) hx hb dX2_readLetters_126 (by decide) ?_
              exact W.zret (v := 0) (ty := .boolean) hx hb hr rfl (fun t ht hW => ⟨⟨0, f_86, rfl, ⟨hG, (by decide), hfr0, hfr2_4, hfr2_7, hfr2_8, hfr207_12, hrr2_0, hrr2_3, hrr207_0, hrr207_3, hrr207_11, (by intro w5 z5 e5 d5; rw [hfo_1] at e5; rw [hfo_96] at d5; obtain rfl := Option.some.inj e5; obtain rfl := Option.some.inj d5; (try rw [ti_0]) <;> omega), (fun d9 h9 => by rw [hfo_96] at h9; obtain rfl := Option.some.inj h9; exact hT0)⟩, by rw [ht]; exact hP, va_K.moved hW.alike hK, pl_in hD⟩, hS.F ht⟩) hS.2.2 dX2_readLetters_127
            · skip
              rw [← Int32.toInt_inj, ti_0] at c_107
              exfalso
              omega
        · skip
          rw [← Int32.toInt_inj, ti_0] at c_83
          have hclc_108 : (0 ≤ v_73.toInt ∧ v_73.toInt ≤ 599) := by constructor <;> omega
          rcases hpkx_56 with hs9 | ex_56
          · exfalso; omega
          refine lv_aload_n hx hb dX2_readLetters_23 rfl (lv_at hl 1 rfl) ?_
          refine tk_getP (D := (dC, dI)) (ci := 2) (v := .ref a_2) (C := RX2) (T := TX2) (N := 10) hx hb hU inlX2 hown hK hP mo0 hfo_67 rfl 0 (by decide) (hU _ wd_150) (fun _ h9 => h9) rfl dX2_readLetters_24 ?_
          refine lv_aload_n hx hb dX2_readLetters_27 rfl (lv_at hl 1 rfl) ?_
          refine tk_getP (D := (dC, dI)) (ci := 2) (v := .ref a_5) (C := RX2) (T := TX2) (N := 10) hx hb hU inlX2 hown hK hP mo0 hfo_67 rfl 3 (by decide) (hU _ wd_152) (fun _ h9 => h9) rfl dX2_readLetters_28 ?_
          refine lv_aload_n hx hb dX2_readLetters_31 rfl (lv_at hl 1 rfl) ?_
          refine tk_getP (D := (dC, dI)) (ci := 2) (v := .int v_73) (C := RX2) (T := TX2) (N := 10) hx hb hU inlX2 hown hK hP mo0 hfo_67 rfl 5 (by decide) (hU _ wd_256) (fun _ h9 => h9) rfl dX2_readLetters_32 ?_
          refine tk_ildP hx hb hK hP 0 ma_5 hfo_78 rfl (vp_in_iff.mpr (by constructor <;> omega)) dX2_readLetters_35 ?_
          refine tk_topi (y := x_56) ex_56.symm ?_
          obtain ⟨a_110, v_111, a_112, a_113, a_114, a_115, v_116, a_117, a_118, a_119, a_120, a_121, v_122, a_123, a_124, a_125, hfo_109, ⟨ma_110, ka_110⟩, bv_111, ⟨ma_112, ka_112⟩, ⟨ma_113, ka_113⟩, ⟨ma_114, ka_114⟩, ⟨ma_115, ka_115⟩, bv_116, ⟨ma_117, ka_117⟩, ⟨ma_118, ka_118⟩, ⟨ma_119, ka_119⟩, ⟨ma_120, ka_120⟩, ⟨ma_121, ka_121⟩, bv_122, ⟨ma_123, ka_123⟩, ⟨ma_124, ka_124⟩, ⟨ma_125, ka_125⟩⟩ := un_207 (hG _ ma_2) ka_2
          refine tk_ViP (As := [.int x_56]) (rest := []) (n := 1) hx hb hml hown hU hN hZ (s_X7_signOf_k207_t l (dC, dI) cI cL cZ cR cG cH Z kd L f_57 hG a_2 ma_2 ka_2 x_56 hT0) wd_345 wd_346 wd_347 wd_28 wd_348 (by decide +kernel) ⟨Nat.le_of_ble_eq_true rfl, Nat.le_of_ble_eq_true rfl⟩ hK hP hD hS ma_2 hfo_109 7 rfl rfl rfl hl.1 rfl (Nat.le_of_ble_eq_true rfl) dX2_readLetters_36 ⟨Nat.le_of_ble_eq_true rfl, Nat.le_of_ble_eq_true rfl⟩ (fun x_126 f_127 H locs hw hP hD hS => ?_)
          obtain ⟨rfl, bx_126, hxp_128⟩ := hw
          have hsox_126 := hxp_128 v_111 (by rw [hfo_109]; rfl)
          refine lv_if_eq (tgt := 52) hx hb dX2_readLetters_39 (by decide) (fun c_130 => ?_) (fun c_130 => ?_)
          · skip
            rw [← Int32.toInt_inj, ti_0] at c_130
            refine lv_aload_n hx hb dX2_readLetters_52 rfl (lv_at hl 1 rfl) ?_
            refine tk_getP (D := (dC, dI)) (ci := 2) (v := .ref a_2) (C := RX2) (T := TX2) (N := 10) hx hb hU inlX2 hown hK hP mo0 hfo_67 rfl 0 (by decide) (hU _ wd_150) (fun _ h9 => h9) rfl dX2_readLetters_53 ?_
            refine tk_getP (D := (dC, dI)) (ci := 7) (v := .int v_111) (C := RX7) (T := TX7) (N := 16) hx hb hU inlX7 hown hK hP ma_2 hfo_109 rfl 1 (by decide) (hU _ wd_344) (fun _ h9 => h9) rfl dX2_readLetters_56 ?_
            refine lv_bipush (v := 8) hx hb dX2_readLetters_59 (by decide) ?_
            refine lv_icmp_ne (tgt := 74) hx hb dX2_readLetters_61 (by decide) (fun c_131 => ?_) (fun c_131 => ?_)
            · skip
              rw [← Int32.toInt_inj, ti_8] at c_131
              refine lv_aload_n hx hb dX2_readLetters_74 rfl (lv_at hl 1 rfl) ?_
              refine tk_getP (D := (dC, dI)) (ci := 2) (v := .ref a_2) (C := RX2) (T := TX2) (N := 10) hx hb hU inlX2 hown hK hP mo0 hfo_67 rfl 0 (by decide) (hU _ wd_150) (fun _ h9 => h9) rfl dX2_readLetters_75 ?_
              refine lv_aload_n hx hb dX2_readLetters_78 rfl (lv_at hl 1 rfl) ?_
              refine tk_getP (D := (dC, dI)) (ci := 2) (v := .ref a_5) (C := RX2) (T := TX2) (N := 10) hx hb hU inlX2 hown hK hP mo0 hfo_67 rfl 3 (by decide) (hU _ wd_152) (fun _ h9 => h9) rfl dX2_readLetters_79 ?_
              refine lv_aload_n hx hb dX2_readLetters_82 rfl (lv_at hl 1 rfl) ?_
              refine tk_getP (D := (dC, dI)) (ci := 2) (v := .int v_73) (C := RX2) (T := TX2) (N := 10) hx hb hU inlX2 hown hK hP mo0 hfo_67 rfl 5 (by decide) (hU _ wd_256) (fun _ h9 => h9) rfl dX2_readLetters_83 ?_
              refine tk_ildP hx hb hK hP 0 ma_5 hfo_78 rfl (vp_in_iff.mpr (by constructor <;> omega)) dX2_readLetters_86 ?_
              refine tk_topi (y := x_56) ex_56.symm ?_
              refine tk_VvP (As := [.int x_56]) (rest := []) (n := 1) hx hb hml hown hU hN hZ (s_X7_addLetter_k207_t l (dC, dI) cI cL cZ cR cG cH Z kd L f_57 hG a_2 ma_2 ka_2 x_56 (by constructor <;> omega) hT0) wd_353 wd_354 wd_355 wd_28 wd_356 (by decide +kernel) ⟨Nat.le_of_ble_eq_true rfl, Nat.le_of_ble_eq_true rfl⟩ hK hP hD hS ma_2 hfo_109 7 rfl rfl rfl hl.1 rfl (Nat.le_of_ble_eq_true rfl) dX2_readLetters_87 ⟨Nat.le_of_ble_eq_true rfl, Nat.le_of_ble_eq_true rfl⟩ (fun f_133 H locs hw hP hD hS => ?_)
              obtain ⟨hG, hkc_134, hfc_135, hrc_136, hrc_137, hrc_138, hTc_139⟩ := hw
              have hfo_141 : f_133 o0 = .inr (2, [.ref a_2, .int v_69, .int v_70, .ref a_5, .int v_26, .int v_73, .int v_74, .int v_29, .int v_30, .int v_77]) := by rw [hkc_134 o0 (by rw [ko0]; decide) (by rw [ko0]; decide) (by rw [ko0]; decide) (by rw [ko0]; decide) (by rw [ko0]; decide)]; exact hfo_67
              have hfo_142 : f_133 a_5 = .inl (cI, 600, .inl g_79) := by rw [hkc_134 a_5 (by rw [ka_5]; decide) (by rw [ka_5]; decide) (by rw [ka_5]; decide) (by rw [ka_5]; decide) (by rw [ka_5]; decide)]; exact hfo_78
              have hfr0 : ∀ b, kd b ≠ 2 → kd b ≠ 207 → kd b ≠ 566 → kd b ≠ 568 → kd b ≠ 569 → kd b ≠ 572 → f_133 b = f b := fun b q2 q207 q566 q568 q569 q572 => (hkc_134 b q207 q566 q568 q569 q572).trans (hfr0 b q2 q207 q566 q568 q569 q572)
              have hfr2_4 : ∀ b, kd b = 2 → fldI (f_133 b) 4 = fldI (f b) 4 := fun b kb => (congrArg (fun x => fldI x 4) (hkc_134 b (by rw [kb]; decide) (by rw [kb]; decide) (by rw [kb]; decide) (by rw [kb]; decide) (by rw [kb]; decide))).trans (hfr2_4 b kb)
              have hfr2_7 : ∀ b, kd b = 2 → fldI (f_133 b) 7 = fldI (f b) 7 := fun b kb => (congrArg (fun x => fldI x 7) (hkc_134 b (by rw [kb]; decide) (by rw [kb]; decide) (by rw [kb]; decide) (by rw [kb]; decide) (by rw [kb]; decide))).trans (hfr2_7 b kb)
              have hfr2_8 : ∀ b, kd b = 2 → fldI (f_133 b) 8 = fldI (f b) 8 := fun b kb => (congrArg (fun x => fldI x 8) (hkc_134 b (by rw [kb]; decide) (by rw [kb]; decide) (by rw [kb]; decide) (by rw [kb]; decide) (by rw [kb]; decide))).trans (hfr2_8 b kb)
              have hfr207_12 : ∀ b, kd b = 207 → fldI (f_133 b) 12 = fldI (f b) 12 := fun b kb => (hfc_135 b kb).trans (hfr207_12 b kb)
              have hrr2_0 : ∀ b, kd b = 2 → fldR (f_133 b) 0 = fldR (f b) 0 := fun b kb => (congrArg (fun x => fldR x 0) (hkc_134 b (by rw [kb]; decide) (by rw [kb]; decide) (by rw [kb]; decide) (by rw [kb]; decide) (by rw [kb]; decide))).trans (hrr2_0 b kb)
              have hrr2_3 : ∀ b, kd b = 2 → fldR (f_133 b) 3 = fldR (f b) 3 := fun b kb => (congrArg (fun x => fldR x 3) (hkc_134 b (by rw [kb]; decide) (by rw [kb]; decide) (by rw [kb]; decide) (by rw [kb]; decide) (by rw [kb]; decide))).trans (hrr2_3 b kb)
              have hrr207_0 : ∀ b, kd b = 207 → fldR (f_133 b) 0 = fldR (f b) 0 := fun b kb => (hrc_136 b kb).trans (hrr207_0 b kb)
              have hrr207_3 : ∀ b, kd b = 207 → fldR (f_133 b) 3 = fldR (f b) 3 := fun b kb => (hrc_137 b kb).trans (hrr207_3 b kb)
              have hrr207_11 : ∀ b, kd b = 207 → fldR (f_133 b) 11 = fldR (f b) 11 := fun b kb => (hrc_138 b kb).trans (hrr207_11 b kb)
              obtain ⟨a_144, v_145, a_146, a_147, a_148, a_149, v_150, a_151, a_152, a_153, a_154, a_155, v_156, a_157, a_158, a_159, hfo_143, ⟨ma_144, ka_144⟩, bv_145, ⟨ma_146, ka_146⟩, ⟨ma_147, ka_147⟩, ⟨ma_148, ka_148⟩, ⟨ma_149, ka_149⟩, bv_150, ⟨ma_151, ka_151⟩, ⟨ma_152, ka_152⟩, ⟨ma_153, ka_153⟩, ⟨ma_154, ka_154⟩, ⟨ma_155, ka_155⟩, bv_156, ⟨ma_157, ka_157⟩, ⟨ma_158, ka_158⟩, ⟨ma_159, ka_159⟩⟩ := un_207 (hG _ ma_2) ka_2
              obtain rfl : v_122 = v_156 := by have hk9 := hfc_135 a_2 ka_2; rw [hfo_143, hfo_109] at hk9; exact (Option.some.inj hk9).symm
              obtain rfl : a_110 = a_144 := by have hk9 := hrc_136 a_2 ka_2; rw [hfo_143, hfo_109] at hk9; exact (Option.some.inj hk9).symm
              obtain rfl : a_113 = a_147 := by have hk9 := hrc_137 a_2 ka_2; rw [hfo_143, hfo_109] at hk9; exact (Option.some.inj hk9).symm
              obtain rfl : a_121 = a_155 := by have hk9 := hrc_138 a_2 ka_2; rw [hfo_143, hfo_109] at hk9; exact (Option.some.inj hk9).symm
              refine lv_aload_n hx hb dX2_readLetters_90 rfl (lv_at hl 1 rfl) ?_
              refine lv_dup hx hb dX2_readLetters_91 rfl ?_
              refine tk_getP (D := (dC, dI)) (ci := 2) (v := .int v_73) (C := RX2) (T := TX2) (N := 10) hx hb hU inlX2 hown hK hP mo0 hfo_141 rfl 5 (by decide) (hU _ wd_256) (fun _ h9 => h9) rfl dX2_readLetters_92 ?_
              refine lv_iconst (v := 1) hx hb dX2_readLetters_95 (by decide) ?_
              refine lv_iadd hx hb dX2_readLetters_96 ?_
              refine lv_topi (fun x_160 ex_160 => ?_)
              have hx_160 : x_160.toInt = v_73.toInt + 1 := by rw [ex_160, ad_I (by rw [ti_1]; omega) (by rw [ti_1]; omega), ti_1]
              have bx_160 : (1 ≤ x_160.toInt ∧ x_160.toInt ≤ 600) := by constructor <;> omega
              refine tk_putP (D := (dC, dI)) (ci := 2) (v := .int x_160) (ty := .int) (C := RX2) (T := TX2) (N := 10) hx hb hU inlX2 tyX2 tyX2_ok nmX2 hown hK hP hD hS mo0 hfo_141 rfl 5 (by decide) (hU _ wd_256) (fun _ h9 => h9) rfl (by decide +kernel) rfl rfl (Nat.le_of_ble_eq_true rfl) dX2_readLetters_97 (fun H locs hP hD hS => ?_)
              obtain ⟨f_162, ef_162⟩ : ∃ y : Nat → va_E, y = va_up f_133 o0 (.inr (2, [.ref a_2, .int v_69, .int v_70, .ref a_5, .int v_26, .int x_160, .int v_74, .int v_29, .int v_30, .int v_77])) := ⟨_, rfl⟩
              have hP : va_P (dC, dI) vwCl (va_pl L f_162) H := by rw [ef_162]; exact hP
              have hD : va_D (fun q => q ∈ L) (va_pl L f_162) := by rw [ef_162]; exact hD
              have hG : GI (okc cI cL cZ cR cG cH L kd) kd L f_162 := by rw [ef_162]; exact hG.set o0 (mk_2 ko0 ⟨a_2, v_69, v_70, a_5, v_26, x_160, v_74, v_29, v_30, v_77, rfl, ⟨ma_2, ka_2⟩, ⟨ma_5, ka_5⟩, (by constructor <;> omega), (by constructor <;> omega), (by constructor <;> omega), (by constructor <;> omega), (by constructor <;> omega)⟩)
              have hfo_163 : f_162 a_5 = .inl (cI, 600, .inl g_79) := by rw [ef_162, up_ne (kd_ne ko0 ka_5 (by decide))]; exact hfo_142
              have hfo_164 : f_162 a_2 = .inr (7, [.ref a_110, .int v_145, .ref a_146, .ref a_113, .ref a_148, .ref a_149, .int v_150, .ref a_151, .ref a_152, .ref a_153, .ref a_154, .ref a_121, .int v_122, .ref a_157, .ref a_158, .ref a_159]) := by rw [ef_162, up_ne (kd_ne ko0 ka_2 (by decide))]; exact hfo_143
              have hfr0 : ∀ b, kd b ≠ 2 → kd b ≠ 207 → kd b ≠ 566 → kd b ≠ 568 → kd b ≠ 569 → kd b ≠ 572 → f_162 b = f b := fun b q2 q207 q566 q568 q569 q572 => (congrFun ef_162 b).trans ((up_ne (fun e9 => q2 (by rw [e9]; exact ko0))).trans (hfr0 b q2 q207 q566 q568 q569 q572))
              have hfr2_4 : ∀ b, kd b = 2 → fldI (f_162 b) 4 = fldI (f b) 4 := fun b kb => ((congrArg (fun x => fldI x 4) (congrFun ef_162 b)).trans (fk_up (by rw [hfo_141]; rfl) b)).trans (hfr2_4 b kb)
              have hfr2_7 : ∀ b, kd b = 2 → fldI (f_162 b) 7 = fldI (f b) 7 := fun b kb => ((congrArg (fun x => fldI x 7) (congrFun ef_162 b)).trans (fk_up (by rw [hfo_141]; rfl) b)).trans (hfr2_7 b kb)
              have hfr2_8 : ∀ b, kd b = 2 → fldI (f_162 b) 8 = fldI (f b) 8 := fun b kb => ((congrArg (fun x => fldI x 8) (congrFun ef_162 b)).trans (fk_up (by rw [hfo_141]; rfl) b)).trans (hfr2_8 b kb)
              have hfr207_12 : ∀ b, kd b = 207 → fldI (f_162 b) 12 = fldI (f b) 12 := fun b kb => (congrArg (fun x => fldI x 12) ((congrFun ef_162 b).trans (up_ne (kd_ne ko0 kb (by decide))))).trans (hfr207_12 b kb)
              have hrr2_0 : ∀ b, kd b = 2 → fldR (f_162 b) 0 = fldR (f b) 0 := fun b kb => ((congrArg (fun x => fldR x 0) (congrFun ef_162 b)).trans (fr_up (by rw [hfo_141]; rfl) b)).trans (hrr2_0 b kb)
              have hrr2_3 : ∀ b, kd b = 2 → fldR (f_162 b) 3 = fldR (f b) 3 := fun b kb => ((congrArg (fun x => fldR x 3) (congrFun ef_162 b)).trans (fr_up (by rw [hfo_141]; rfl) b)).trans (hrr2_3 b kb)
              have hrr207_0 : ∀ b, kd b = 207 → fldR (f_162 b) 0 = fldR (f b) 0 := fun b kb => (congrArg (fun x => fldR x 0) ((congrFun ef_162 b).trans (up_ne (kd_ne ko0 kb (by decide))))).trans (hrr207_0 b kb)
              have hrr207_3 : ∀ b, kd b = 207 → fldR (f_162 b) 3 = fldR (f b) 3 := fun b kb => (congrArg (fun x => fldR x 3) ((congrFun ef_162 b).trans (up_ne (kd_ne ko0 kb (by decide))))).trans (hrr207_3 b kb)
              have hrr207_11 : ∀ b, kd b = 207 → fldR (f_162 b) 11 = fldR (f b) 11 := fun b kb => (congrArg (fun x => fldR x 11) ((congrFun ef_162 b).trans (up_ne (kd_ne ko0 kb (by decide))))).trans (hrr207_11 b kb)
              have hTc_139 : trel kd 207 566 568 573 204 f_162 a_2 := by rw [ef_162]; exact hTc_139.up ko0 (by decide) (by decide) (by decide) (by decide) (by decide)
              have hfo_165 : f_162 o0 = .inr (2, [.ref a_2, .int v_69, .int v_70, .ref a_5, .int v_26, .int x_160, .int v_74, .int v_29, .int v_30, .int v_77]) := by rw [ef_162]; exact up_self
              obtain ⟨x_166, ex_166⟩ : ∃ y : Int32, y_18 + 1 = y := ⟨_, rfl⟩
              have hx_166 : x_166.toInt = y_18.toInt + 1 := by rw [← ex_166, ad_I (by rw [ti_1]; omega) (by rw [ti_1]; omega), ti_1]
              have bx_166 : (1 ≤ x_166.toInt ∧ x_166.toInt ≤ 601) := by constructor <;> omega
              refine lv_iinc (v := x_166) (lv' := [(1, .int x_166), (0, .ref o0)]) hx hb dX2_readLetters_100 hl (k := 0) rfl ex_166 (by decide) rfl (fun ls hl => ?_)
              refine lv_goto (tgt := 2) hx hb dX2_readLetters_103 (by decide) ?_
              exact ih_hloop_17 x_166 (by constructor <;> omega) f_162 hG _ _ hP hS hD hfr0 hfr2_4 hfr2_7 hfr2_8 hfr207_12 hrr2_0 hrr2_3 hrr207_0 hrr207_3 hrr207_11 hTc_139 x_160 (by rw [hfo_165]; rfl) (by omega) (by omega) (by omega) (by omega) ls (lv_sub hl [0, 1] rfl)
            · skip
              rw [← Int32.toInt_inj, ti_8] at c_131
              refine lv_aload_n hx hb dX2_readLetters_64 rfl (lv_at hl 1 rfl) ?_
              refine lv_iconst (v := 3) hx hb dX2_readLetters_65 (by decide) ?_
              refine lv_aload_n hx hb dX2_readLetters_66 rfl (lv_at hl 1 rfl) ?_
              refine tk_getP (D := (dC, dI)) (ci := 2) (v := .int v_73) (C := RX2) (T := TX2) (N := 10) hx hb hU inlX2 hown hK hP mo0 hfo_67 rfl 5 (by decide) (hU _ wd_256) (fun _ h9 => h9) rfl dX2_readLetters_67 ?_
              refine tk_ViP (As := [.int 3, .int v_73]) (rest := []) (n := 2) hx hb hml hown hU hN hZ (s_X2_fail_k2 l (dC, dI) cI cL cZ cR cG cH Z kd L f_57 hG o0 mo0 ko0 3 v_73) wd_349 wd_350 wd_351 wd_33 wd_352 (by decide +kernel) ⟨Nat.le_of_ble_eq_true rfl, Nat.le_of_ble_eq_true rfl⟩ hK hP hD hS mo0 hfo_67 2 rfl rfl rfl hl.1 rfl (Nat.le_of_ble_eq_true rfl) dX2_readLetters_70 ⟨Nat.le_of_ble_eq_true rfl, Nat.le_of_ble_eq_true rfl⟩ (fun x_167 f_168 H locs hw hP hD hS => ?_)
              obtain ⟨hG, bx_167, hkc_169, hfc_170, hfc_171, hfc_172, hfc_173, hrc_174, hrc_175⟩ := hw
              have hfo_177 : f_168 a_5 = .inl (cI, 600, .inl g_79) := by rw [hkc_169 a_5 (by rw [ka_5]; decide)]; exact hfo_78
              have hfo_178 : f_168 a_2 = .inr (7, [.ref a_110, .int v_111, .ref a_112, .ref a_113, .ref a_114, .ref a_115, .int v_116, .ref a_117, .ref a_118, .ref a_119, .ref a_120, .ref a_121, .int v_122, .ref a_123, .ref a_124, .ref a_125]) := by rw [hkc_169 a_2 (by rw [ka_2]; decide)]; exact hfo_109
              have hfr0 : ∀ b, kd b ≠ 2 → kd b ≠ 207 → kd b ≠ 566 → kd b ≠ 568 → kd b ≠ 569 → kd b ≠ 572 → f_168 b = f b := fun b q2 q207 q566 q568 q569 q572 => (hkc_169 b q2).trans (hfr0 b q2 q207 q566 q568 q569 q572)
              have hfr2_4 : ∀ b, kd b = 2 → fldI (f_168 b) 4 = fldI (f b) 4 := fun b kb => (hfc_170 b kb).trans (hfr2_4 b kb)
              have hfr2_7 : ∀ b, kd b = 2 → fldI (f_168 b) 7 = fldI (f b) 7 := fun b kb => (hfc_172 b kb).trans (hfr2_7 b kb)
              have hfr2_8 : ∀ b, kd b = 2 → fldI (f_168 b) 8 = fldI (f b) 8 := fun b kb => (hfc_173 b kb).trans (hfr2_8 b kb)
              have hfr207_12 : ∀ b, kd b = 207 → fldI (f_168 b) 12 = fldI (f b) 12 := fun b kb => (congrArg (fun x => fldI x 12) (hkc_169 b (by rw [kb]; decide))).trans (hfr207_12 b kb)
              have hrr2_0 : ∀ b, kd b = 2 → fldR (f_168 b) 0 = fldR (f b) 0 := fun b kb => (hrc_174 b kb).trans (hrr2_0 b kb)
              have hrr2_3 : ∀ b, kd b = 2 → fldR (f_168 b) 3 = fldR (f b) 3 := fun b kb => (hrc_175 b kb).trans (hrr2_3 b kb)
              have hrr207_0 : ∀ b, kd b = 207 → fldR (f_168 b) 0 = fldR (f b) 0 := fun b kb => (congrArg (fun x => fldR x 0) (hkc_169 b (by rw [kb]; decide))).trans (hrr207_0 b kb)
              have hrr207_3 : ∀ b, kd b = 207 → fldR (f_168 b) 3 = fldR (f b) 3 := fun b kb => (congrArg (fun x => fldR x 3) (hkc_169 b (by rw [kb]; decide))).trans (hrr207_3 b kb)
              have hrr207_11 : ∀ b, kd b = 207 → fldR (f_168 b) 11 = fldR (f b) 11 := fun b kb => (congrArg (fun x => fldR x 11) (hkc_169 b (by rw [kb]; decide))).trans (hrr207_11 b kb)
              have hT0 : trel kd 207 566 568 573 204 f_168 a_2 := hT0.keep (fun b q => hkc_169 b (by rw [q]; decide)) (fun b q => hkc_169 b (by rw [q]; decide)) (fun b q => hkc_169 b (by rw [q]; decide)) (fun b q => hkc_169 b (by rw [q]; decide)) (fun b q => congrArg (fun x => fldI x 1) (hkc_169 b (by rw [q]; decide)))
              obtain ⟨a_180, v_181, v_182, a_183, v_184, v_185, v_186, v_187, v_188, v_189, hfo_179, ⟨ma_180, ka_180⟩, ⟨ma_183, ka_183⟩, bv_184, bv_185, bv_186, bv_187, bv_188⟩ := un_2 (hG _ mo0) ko0
              have bv_181 : ((-2147483648) ≤ v_181.toInt ∧ v_181.toInt ≤ 2147483647) := ⟨i32_lo _, i32_hi _⟩
              have bv_182 : ((-2147483648) ≤ v_182.toInt ∧ v_182.toInt ≤ 2147483647) := ⟨i32_lo _, i32_hi _⟩
              have bv_189 : ((-2147483648) ≤ v_189.toInt ∧ v_189.toInt ≤ 2147483647) := ⟨i32_lo _, i32_hi _⟩
              obtain rfl : a_2 = a_180 := by have hk9 := hrr2_0 o0 ko0; rw [hfo_179, hfo_1] at hk9; exact (Option.some.inj hk9).symm
              obtain rfl : a_5 = a_183 := by have hk9 := hrr2_3 o0 ko0; rw [hfo_179, hfo_1] at hk9; exact (Option.some.inj hk9).symm
              obtain rfl : v_26 = v_184 := by have hk9 := hfc_170 o0 ko0; rw [hfo_179, hfo_67] at hk9; exact (Option.some.inj hk9).symm
              obtain rfl : v_73 = v_185 := by have hk9 := hfc_171 o0 ko0; rw [hfo_179, hfo_67] at hk9; exact (Option.some.inj hk9).symm
              obtain rfl : v_29 = v_187 := by have hk9 := hfc_172 o0 ko0; rw [hfo_179, hfo_67] at hk9; exact (Option.some.inj hk9).symm
              obtain rfl : v_30 = v_188 := by have hk9 := hfc_173 o0 ko0; rw [hfo_179, hfo_67] at hk9; exact (Option.some.inj hk9).symm
              exact W.zret (v := x_167) (ty := .boolean) hx hb hr (zb_n (by constructor <;> omega)) (fun t ht hW => ⟨⟨x_167, f_168, rfl, ⟨hG, (by constructor <;> omega), hfr0, hfr2_4, hfr2_7, hfr2_8, hfr207_12, hrr2_0, hrr2_3, hrr207_0, hrr207_3, hrr207_11, (by intro w5 z5 e5 d5; rw [hfo_1] at e5; rw [hfo_179] at d5; obtain rfl := Option.some.inj e5; obtain rfl := Option.some.inj d5; omega), (fun d9 h9 => by rw [hfo_179] at h9; obtain rfl := Option.some.inj h9; exact hT0)⟩, by rw [ht]; exact hP, va_K.moved hW.alike hK, pl_in hD⟩, hS.F ht⟩) hS.2.2 dX2_readLetters_73
          · skip
            rw [← Int32.toInt_inj, ti_0] at c_130
            refine lv_aload_n hx hb dX2_readLetters_42 rfl (lv_at hl 1 rfl) ?_
            refine lv_iconst (v := 2) hx hb dX2_readLetters_43 (by decide) ?_
            refine lv_aload_n hx hb dX2_readLetters_44 rfl (lv_at hl 1 rfl) ?_
            refine tk_getP (D := (dC, dI)) (ci := 2) (v := .int v_73) (C := RX2) (T := TX2) (N := 10) hx hb hU inlX2 hown hK hP mo0 hfo_67 rfl 5 (by decide) (hU _ wd_256) (fun _ h9 => h9) rfl dX2_readLetters_45 ?_
            refine tk_ViP (As := [.int 2, .int v_73]) (rest := []) (n := 2) hx hb hml hown hU hN hZ (s_X2_fail_k2 l (dC, dI) cI cL cZ cR cG cH Z kd L f_57 hG o0 mo0 ko0 2 v_73) wd_349 wd_350 wd_351 wd_33 wd_352 (by decide +kernel) ⟨Nat.le_of_ble_eq_true rfl, Nat.le_of_ble_eq_true rfl⟩ hK hP hD hS mo0 hfo_67 2 rfl rfl rfl hl.1 rfl (Nat.le_of_ble_eq_true rfl) dX2_readLetters_48 ⟨Nat.le_of_ble_eq_true rfl, Nat.le_of_ble_eq_true rfl⟩ (fun x_190 f_191 H locs hw hP hD hS => ?_)
            obtain ⟨hG, bx_190, hkc_192, hfc_193, hfc_194, hfc_195, hfc_196, hrc_197, hrc_198⟩ := hw
            have hfo_200 : f_191 a_5 = .inl (cI, 600, .inl g_79) := by rw [hkc_192 a_5 (by rw [ka_5]; decide)]; exact hfo_78
            have hfo_201 : f_191 a_2 = .inr (7, [.ref a_110, .int v_111, .ref a_112, .ref a_113, .ref a_114, .ref a_115, .int v_116, .ref a_117, .ref a_118, .ref a_119, .ref a_120, .ref a_121, .int v_122, .ref a_123, .ref a_124, .ref a_125]) := by rw [hkc_192 a_2 (by rw [ka_2]; decide)]; exact hfo_109
            have hfr0 : ∀ b, kd b ≠ 2 → kd b ≠ 207 → kd b ≠ 566 → kd b ≠ 568 → kd b ≠ 569 → kd b ≠ 572 → f_191 b = f b := fun b q2 q207 q566 q568 q569 q572 => (hkc_192 b q2).trans (hfr0 b q2 q207 q566 q568 q569 q572)
            have hfr2_4 : ∀ b, kd b = 2 → fldI (f_191 b) 4 = fldI (f b) 4 := fun b kb => (hfc_193 b kb).trans (hfr2_4 b kb)
            have hfr2_7 : ∀ b, kd b = 2 → fldI (f_191 b) 7 = fldI (f b) 7 := fun b kb => (hfc_195 b kb).trans (hfr2_7 b kb)
            have hfr2_8 : ∀ b, kd b = 2 → fldI (f_191 b) 8 = fldI (f b) 8 := fun b kb => (hfc_196 b kb).trans (hfr2_8 b kb)
            have hfr207_12 : ∀ b, kd b = 207 → fldI (f_191 b) 12 = fldI (f b) 12 := fun b kb => (congrArg (fun x => fldI x 12) (hkc_192 b (by rw [kb]; decide))).trans (hfr207_12 b kb)
            have hrr2_0 : ∀ b, kd b = 2 → fldR (f_191 b) 0 = fldR (f b) 0 := fun b kb => (hrc_197 b kb).trans (hrr2_0 b kb)
            have hrr2_3 : ∀ b, kd b = 2 → fldR (f_191 b) 3 = fldR (f b) 3 := fun b kb => (hrc_198 b kb).trans (hrr2_3 b kb)
            have hrr207_0 : ∀ b, kd b = 207 → fldR (f_191 b) 0 = fldR (f b) 0 := fun b kb => (congrArg (fun x => fldR x 0) (hkc_192 b (by rw [kb]; decide))).trans (hrr207_0 b kb)
            have hrr207_3 : ∀ b, kd b = 207 → fldR (f_191 b) 3 = fldR (f b) 3 := fun b kb => (congrArg (fun x => fldR x 3) (hkc_192 b (by rw [kb]; decide))).trans (hrr207_3 b kb)
            have hrr207_11 : ∀ b, kd b = 207 → fldR (f_191 b) 11 = fldR (f b) 11 := fun b kb => (congrArg (fun x => fldR x 11) (hkc_192 b (by rw [kb]; decide))).trans (hrr207_11 b kb)
            have hT0 : trel kd 207 566 568 573 204 f_191 a_2 := hT0.keep (fun b q => hkc_192 b (by rw [q]; decide)) (fun b q => hkc_192 b (by rw [q]; decide)) (fun b q => hkc_192 b (by rw [q]; decide)) (fun b q => hkc_192 b (by rw [q]; decide)) (fun b q => congrArg (fun x => fldI x 1) (hkc_192 b (by rw [q]; decide)))
            obtain ⟨a_203, v_204, v_205, a_206, v_207, v_208, v_209, v_210, v_211, v_212, hfo_202, ⟨ma_203, ka_203⟩, ⟨ma_206, ka_206⟩, bv_207, bv_208, bv_209, bv_210, bv_211⟩ := un_2 (hG _ mo0) ko0
            have bv_204 : ((-2147483648) ≤ v_204.toInt ∧ v_204.toInt ≤ 2147483647) := ⟨i32_lo _, i32_hi _⟩
            have bv_205 : ((-2147483648) ≤ v_205.toInt ∧ v_205.toInt ≤ 2147483647) := ⟨i32_lo _, i32_hi _⟩
            have bv_212 : ((-2147483648) ≤ v_212.toInt ∧ v_212.toInt ≤ 2147483647) := ⟨i32_lo _, i32_hi _⟩
            obtain rfl : a_2 = a_203 := by have hk9 := hrr2_0 o0 ko0; rw [hfo_202, hfo_1] at hk9; exact (Option.some.inj hk9).symm
            obtain rfl : a_5 = a_206 := by have hk9 := hrr2_3 o0 ko0; rw [hfo_202, hfo_1] at hk9; exact (Option.some.inj hk9).symm
            obtain rfl : v_26 = v_207 := by have hk9 := hfc_193 o0 ko0; rw [hfo_202, hfo_67] at hk9; exact (Option.some.inj hk9).symm
            obtain rfl : v_73 = v_208 := by have hk9 := hfc_194 o0 ko0; rw [hfo_202, hfo_67] at hk9; exact (Option.some.inj hk9).symm
            obtain rfl : v_29 = v_210 := by have hk9 := hfc_195 o0 ko0; rw [hfo_202, hfo_67] at hk9; exact (Option.some.inj hk9).symm
            obtain rfl : v_30 = v_211 := by have hk9 := hfc_196 o0 ko0; rw [hfo_202, hfo_67] at hk9; exact (Option.some.inj hk9).symm
            exact W.zret (v := x_190) (ty := .boolean) hx hb hr (zb_n (by constructor <;> omega)) (fun t ht hW => ⟨⟨x_190, f_191, rfl, ⟨hG, (by constructor <;> omega), hfr0, hfr2_4, hfr2_7, hfr2_8, hfr207_12, hrr2_0, hrr2_3, hrr207_0, hrr207_3, hrr207_11, (by intro w5 z5 e5 d5; rw [hfo_1] at e5; rw [hfo_202] at d5; obtain rfl := Option.some.inj e5; obtain rfl := Option.some.inj d5; omega), (fun d9 h9 => by rw [hfo_202] at h9; obtain rfl := Option.some.inj h9; exact hT0)⟩, by rw [ht]; exact hP, va_K.moved hW.alike hK, pl_in hD⟩, hS.F ht⟩) hS.2.2 dX2_readLetters_51
  exact hloop_17 601 0 (by decide) f hG _ _ hP hS hD hfr0 hfr2_4 hfr2_7 hfr2_8 hfr207_12 hrr2_0 hrr2_3 hrr207_0 hrr207_3 hrr207_11 hT0 v_7 (by rw [hfo_1]; rfl) (by (try rw [ti_0]) <;> omega) (by (try rw [ti_0]) <;> omega) (by (try rw [ti_0]) <;> omega) (by (try rw [ti_0]) <;> omega) ls hl
