set_option maxHeartbeats 8000000 in
set_option maxRecDepth 100000 in
theorem s_X11_slack_k11 (l : Launch) (D : va_G) (cI cL cZ cR cG cH : ClassId) (Z : zT) (kd : Nat → Nat) (L : List Nat) (f : Nat → va_E) (hG : GI (okc cI cL cZ cR cG cH L kd) kd L f) (o0 : Nat) (mo0 : o0 ∈ L) (ko0 : kd o0 = 11) (p1 : Int32) : mPI l D cI cL cZ cR cG cH Z yX11_slack cX11_slack 2 (some .boolean) 0 0 [.ref o0, .int p1] L f (fun (r : Int32) (f9 : Nat → va_E) => GI (okc cI cL cZ cR cG cH L kd) kd L f9 ∧ (0 ≤ r.toInt ∧ r.toInt ≤ 1) ∧ (∀ b, kd b ≠ 6 → kd b ≠ 11 → f9 b = f b) ∧ (∀ b, kd b = 6 → fldI (f9 b) 0 = fldI (f b) 0) ∧ (∀ b, kd b = 11 → fldI (f9 b) 1 = fldI (f b) 1) ∧ (∀ b, kd b = 11 → fldI (f9 b) 8 = fldI (f b) 8) ∧ (∀ b, kd b = 11 → fldR (f9 b) 2 = fldR (f b) 2) ∧ (∀ b, kd b = 11 → fldR (f9 b) 3 = fldR (f b) 3) ∧ (∀ b, kd b = 11 → fldR (f9 b) 5 = fldR (f b) 5) ∧ (∀ b, kd b = 11 → fldR (f9 b) 6 = fldR (f b) 6) ∧ (∀ b, kd b = 11 → fldR (f9 b) 7 = fldR (f b) 7) ∧ (∀ b, kd b = 11 → fldR (f9 b) 9 = fldR (f b) 9) ∧ (∀ b, kd b = 11 → fldR (f9 b) 10 = fldR (f b) 10) ∧ (∀ b, kd b = 11 → fldR (f9 b) 16 = fldR (f b) 16)) := by
  obtain ⟨dC, dI⟩ := D
  refine Met.ofW (cc := cX11_slack) (maxL := 2) (ret := (some .boolean)) (by decide) rfl ?_
  intro p e s m args below meth c s₁ B hml hv
  obtain ⟨rfl, hP, hK, hD0, hN, hZ⟩ := hv
  have hx := B.exec
  have hb := B.bytes
  have hr := B.returns
  have hU : ∀ w ∈ wsU, w.before _ s = true := fun w h => atoms_spec (ws := wU yX11_slack cX11_slack 2 (some .boolean)) B.pre w (List.mem_cons_of_mem _ h)
  have hown : s.vm.findClass RX11 = some m.cls := findClass_of_methodNamed B.named
  have hlocks := B.notSynchronized
  have hD := pl_in hD0
  have hS : va_S (fun q => q ∈ L) s.heap s.heap [] := va_S.rf
  have hl := lv_entry ([.ref o0, .int p1]) (n := 2) (Nat.le_of_ble_eq_true rfl)
  rw [lg_entry_eq]
  generalize (lg_sl ([.ref o0, .int p1]) ++ List.replicate (2 - (lg_sl ([.ref o0, .int p1])).length) Slot.unset).toArray = ls at hl ⊢
  have hl : lv_has ls 2 [(0, .ref o0), (1, .int p1)] := hl
  have bp1 : ((-2147483648) ≤ p1.toInt ∧ p1.toInt ≤ 2147483647) := ⟨i32_lo _, i32_hi _⟩
  have hfr0 : ∀ b, kd b ≠ 6 → kd b ≠ 11 → f b = f b := fun _ _ _ => rfl
  have hfr6_0 : ∀ b, kd b = 6 → fldI (f b) 0 = fldI (f b) 0 := fun _ _ => rfl
  have hfr11_1 : ∀ b, kd b = 11 → fldI (f b) 1 = fldI (f b) 1 := fun _ _ => rfl
  have hfr11_8 : ∀ b, kd b = 11 → fldI (f b) 8 = fldI (f b) 8 := fun _ _ => rfl
  have hrr11_2 : ∀ b, kd b = 11 → fldR (f b) 2 = fldR (f b) 2 := fun _ _ => rfl
  have hrr11_3 : ∀ b, kd b = 11 → fldR (f b) 3 = fldR (f b) 3 := fun _ _ => rfl
  have hrr11_5 : ∀ b, kd b = 11 → fldR (f b) 5 = fldR (f b) 5 := fun _ _ => rfl
  have hrr11_6 : ∀ b, kd b = 11 → fldR (f b) 6 = fldR (f b) 6 := fun _ _ => rfl
  have hrr11_7 : ∀ b, kd b = 11 → fldR (f b) 7 = fldR (f b) 7 := fun _ _ => rfl
  have hrr11_9 : ∀ b, kd b = 11 → fldR (f b) 9 = fldR (f b) 9 := fun _ _ => rfl
  have hrr11_10 : ∀ b, kd b = 11 → fldR (f b) 10 = fldR (f b) 10 := fun _ _ => rfl
  have hrr11_16 : ∀ b, kd b = 11 → fldR (f b) 16 = fldR (f b) 16 := fun _ _ => rfl
  refine lv_iload_n hx hb dX11_slack_0 rfl (lv_at hl 1 rfl) ?_
  refine lv_if_eq (tgt := 11) hx hb dX11_slack_1 (by decide) (fun c_1 => ?_) (fun c_1 => ?_)
  · skip
    rw [← Int32.toInt_inj, ti_0] at c_1
    refine lv_aload_n hx hb dX11_slack_11 rfl (lv_at hl 0 rfl) ?_
    obtain ⟨a_3, v_4, a_5, a_6, a_7, a_8, a_9, a_10, v_11, a_12, a_13, a_14, v_15, v_16, a_17, v_18, a_19, a_20, v_21, hfo_2, ⟨ma_3, ka_3⟩, bv_4, ⟨ma_5, ka_5⟩, ⟨ma_6, ka_6⟩, ⟨ma_7, ka_7⟩, ⟨ma_8, ka_8⟩, ⟨ma_9, ka_9⟩, ⟨ma_10, ka_10⟩, bv_11, ⟨ma_12, ka_12⟩, ⟨ma_13, ka_13⟩, ⟨ma_14, ka_14⟩, bv_15, ⟨ma_17, ka_17⟩, bv_18, ⟨ma_19, ka_19⟩, ⟨ma_20, ka_20⟩⟩ := un_11 (hG _ mo0) ko0
    have bv_16 : ((-2147483648) ≤ v_16.toInt ∧ v_16.toInt ≤ 2147483647) := ⟨i32_lo _, i32_hi _⟩
    have bv_21 : ((-2147483648) ≤ v_21.toInt ∧ v_21.toInt ≤ 2147483647) := ⟨i32_lo _, i32_hi _⟩
    refine tk_getP (D := (dC, dI)) (ci := 11) (v := .ref a_8) (C := RX11) (T := TX11) (N := 19) hx hb hU inlX11 hown hK hP mo0 hfo_2 rfl 5 (by decide) (hU _ wd_25) (fun _ h9 => h9) rfl dX11_slack_12 ?_
    refine lv_iload_n hx hb dX11_slack_15 rfl (lv_at hl 1 rfl) ?_
    obtain ⟨v_23, v_24, a_25, a_26, a_27, v_28, a_29, a_30, a_31, hfo_22, bv_24, ⟨ma_25, ka_25⟩, ⟨ma_26, ka_26⟩, ⟨ma_27, ka_27⟩, ⟨ma_29, ka_29⟩, ⟨ma_30, ka_30⟩, ⟨ma_31, ka_31⟩⟩ := un_6 (hG _ ma_8) ka_8
    have bv_23 : ((-2147483648) ≤ v_23.toInt ∧ v_23.toInt ≤ 2147483647) := ⟨i32_lo _, i32_hi _⟩
    have bv_28 : ((-2147483648) ≤ v_28.toInt ∧ v_28.toInt ≤ 2147483647) := ⟨i32_lo _, i32_hi _⟩
    refine tk_putP (D := (dC, dI)) (ci := 6) (v := .int p1) (ty := .int) (C := RX6) (T := TX6) (N := 9) hx hb hU inlX6 tyX6 tyX6_ok nmX6 hown hK hP hD hS ma_8 hfo_22 rfl 1 (by decide) (hU _ wd_694) (fun _ h9 => h9) rfl (by decide +kernel) rfl rfl (Nat.le_of_ble_eq_true rfl) dX11_slack_16 (fun H locs hP hD hS => ?_)
    obtain ⟨f_33, ef_33⟩ : ∃ y : Nat → va_E, y = va_up f a_8 (.inr (6, [.int v_23, .int p1, .ref a_25, .ref a_26, .ref a_27, .int v_28, .ref a_29, .ref a_30, .ref a_31])) := ⟨_, rfl⟩
    have hP : va_P (dC, dI) vwCl (va_pl L f_33) H := by rw [ef_33]; exact hP
    have hD : va_D (fun q => q ∈ L) (va_pl L f_33) := by rw [ef_33]; exact hD
    have hG : GI (okc cI cL cZ cR cG cH L kd) kd L f_33 := by rw [ef_33]; exact hG.set a_8 (mk_6 ka_8 ⟨v_23, p1, a_25, a_26, a_27, v_28, a_29, a_30, a_31, rfl, (by constructor <;> omega), ⟨ma_25, ka_25⟩, ⟨ma_26, ka_26⟩, ⟨ma_27, ka_27⟩, ⟨ma_29, ka_29⟩, ⟨ma_30, ka_30⟩, ⟨ma_31, ka_31⟩⟩)
    have hfo_34 : f_33 o0 = .inr (11, [.ref a_3, .int v_4, .ref a_5, .ref a_6, .ref a_7, .ref a_8, .ref a_9, .ref a_10, .int v_11, .ref a_12, .ref a_13, .ref a_14, .int v_15, .int v_16, .ref a_17, .int v_18, .ref a_19, .ref a_20, .int v_21]) := by rw [ef_33, up_ne (kd_ne ka_8 ko0 (by decide))]; exact hfo_2
    have hfr0 : ∀ b, kd b ≠ 6 → kd b ≠ 11 → f_33 b = f b := fun b q6 q11 => (congrFun ef_33 b).trans ((up_ne (fun e9 => q6 (by rw [e9]; exact ka_8))).trans (hfr0 b q6 q11))
    have hfr6_0 : ∀ b, kd b = 6 → fldI (f_33 b) 0 = fldI (f b) 0 := fun b kb => ((congrArg (fun x => fldI x 0) (congrFun ef_33 b)).trans (fk_up (by rw [hfo_22]; rfl) b)).trans (hfr6_0 b kb)
    have hfr11_1 : ∀ b, kd b = 11 → fldI (f_33 b) 1 = fldI (f b) 1 := fun b kb => (congrArg (fun x => fldI x 1) ((congrFun ef_33 b).trans (up_ne (kd_ne ka_8 kb (by decide))))).trans (hfr11_1 b kb)
    have hfr11_8 : ∀ b, kd b = 11 → fldI (f_33 b) 8 = fldI (f b) 8 := fun b kb => (congrArg (fun x => fldI x 8) ((congrFun ef_33 b).trans (up_ne (kd_ne ka_8 kb (by decide))))).trans (hfr11_8 b kb)
    have hrr11_2 : ∀ b, kd b = 11 → fldR (f_33 b) 2 = fldR (f b) 2 := fun b kb => (congrArg (fun x => fldR x 2) ((congrFun ef_33 b).trans (up_ne (kd_ne ka_8 kb (by decide))))).trans (hrr11_2 b kb)
    have hrr11_3 : ∀ b, kd b = 11 → fldR (f_33 b) 3 = fldR (f b) 3 := fun b kb => (congrArg (fun x => fldR x 3) ((congrFun ef_33 b).trans (up_ne (kd_ne ka_8 kb (by decide))))).trans (hrr11_3 b kb)
    have hrr11_5 : ∀ b, kd b = 11 → fldR (f_33 b) 5 = fldR (f b) 5 := fun b kb => (congrArg (fun x => fldR x 5) ((congrFun ef_33 b).trans (up_ne (kd_ne ka_8 kb (by decide))))).trans (hrr11_5 b kb)
    have hrr11_6 : ∀ b, kd b = 11 → fldR (f_33 b) 6 = fldR (f b) 6 := fun b kb => (congrArg (fun x => fldR x 6) ((congrFun ef_33 b).trans (up_ne (kd_ne ka_8 kb (by decide))))).trans (hrr11_6 b kb)
    have hrr11_7 : ∀ b, kd b = 11 → fldR (f_33 b) 7 = fldR (f b) 7 := fun b kb => (congrArg (fun x => fldR x 7) ((congrFun ef_33 b).trans (up_ne (kd_ne ka_8 kb (by decide))))).trans (hrr11_7 b kb)
    have hrr11_9 : ∀ b, kd b = 11 → fldR (f_33 b) 9 = fldR (f b) 9 := fun b kb => (congrArg (fun x => fldR x 9) ((congrFun ef_33 b).trans (up_ne (kd_ne ka_8 kb (by decide))))).trans (hrr11_9 b kb)
    have hrr11_10 : ∀ b, kd b = 11 → fldR (f_33 b) 10 = fldR (f b) 10 := fun b kb => (congrArg (fun x => fldR x 10) ((congrFun ef_33 b).trans (up_ne (kd_ne ka_8 kb (by decide))))).trans (hrr11_10 b kb)
    have hrr11_16 : ∀ b, kd b = 11 → fldR (f_33 b) 16 = fldR (f b) 16 := fun b kb => (congrArg (fun x => fldR x 16) ((congrFun ef_33 b).trans (up_ne (kd_ne ka_8 kb (by decide))))).trans (hrr11_16 b kb)
    have hfo_35 : f_33 a_8 = .inr (6, [.int v_23, .int p1, .ref a_25, .ref a_26, .ref a_27, .int v_28, .ref a_29, .ref a_30, .ref a_31]) := by rw [ef_33]; exact up_self
    refine lv_aload_n hx hb dX11_slack_19 rfl (lv_at hl 0 rfl) ?_
    refine lv_dup hx hb dX11_slack_20 rfl ?_
    refine tk_getP (D := (dC, dI)) (ci := 11) (v := .int v_21) (C := RX11) (T := TX11) (N := 19) hx hb hU inlX11 hown hK hP mo0 hfo_34 rfl 18 (by decide) (hU _ wd_236) (fun _ h9 => h9) rfl dX11_slack_21 ?_
    refine lv_iconst (v := 1) hx hb dX11_slack_24 (by decide) ?_
    refine lv_iadd hx hb dX11_slack_25 ?_
    refine lv_topi (fun x_36 ex_36 => ?_)
    have bx_36 : ((-2147483648) ≤ x_36.toInt ∧ x_36.toInt ≤ 2147483647) := ⟨i32_lo _, i32_hi _⟩
    refine tk_putP (D := (dC, dI)) (ci := 11) (v := .int x_36) (ty := .int) (C := RX11) (T := TX11) (N := 19) hx hb hU inlX11 tyX11 tyX11_ok nmX11 hown hK hP hD hS mo0 hfo_34 rfl 18 (by decide) (hU _ wd_236) (fun _ h9 => h9) rfl (by decide +kernel) rfl rfl (Nat.le_of_ble_eq_true rfl) dX11_slack_26 (fun H locs hP hD hS => ?_)
    obtain ⟨f_38, ef_38⟩ : ∃ y : Nat → va_E, y = va_up f_33 o0 (.inr (11, [.ref a_3, .int v_4, .ref a_5, .ref a_6, .ref a_7, .ref a_8, .ref a_9, .ref a_10, .int v_11, .ref a_12, .ref a_13, .ref a_14, .int v_15, .int v_16, .ref a_17, .int v_18, .ref a_19, .ref a_20, .int x_36])) := ⟨_, rfl⟩
    have hP : va_P (dC, dI) vwCl (va_pl L f_38) H := by rw [ef_38]; exact hP
    have hD : va_D (fun q => q ∈ L) (va_pl L f_38) := by rw [ef_38]; exact hD
    have hG : GI (okc cI cL cZ cR cG cH L kd) kd L f_38 := by rw [ef_38]; exact hG.set o0 (mk_11 ko0 ⟨a_3, v_4, a_5, a_6, a_7, a_8, a_9, a_10, v_11, a_12, a_13, a_14, v_15, v_16, a_17, v_18, a_19, a_20, x_36, rfl, ⟨ma_3, ka_3⟩, (by constructor <;> omega), ⟨ma_5, ka_5⟩, ⟨ma_6, ka_6⟩, ⟨ma_7, ka_7⟩, ⟨ma_8, ka_8⟩, ⟨ma_9, ka_9⟩, ⟨ma_10, ka_10⟩, (by constructor <;> omega), ⟨ma_12, ka_12⟩, ⟨ma_13, ka_13⟩, ⟨ma_14, ka_14⟩, (by constructor <;> omega), ⟨ma_17, ka_17⟩, (by constructor <;> omega), ⟨ma_19, ka_19⟩, ⟨ma_20, ka_20⟩⟩)
    have hfo_39 : f_38 a_8 = .inr (6, [.int v_23, .int p1, .ref a_25, .ref a_26, .ref a_27, .int v_28, .ref a_29, .ref a_30, .ref a_31]) := by rw [ef_38, up_ne (kd_ne ko0 ka_8 (by decide))]; exact hfo_35
    have hfr0 : ∀ b, kd b ≠ 6 → kd b ≠ 11 → f_38 b = f b := fun b q6 q11 => (congrFun ef_38 b).trans ((up_ne (fun e9 => q11 (by rw [e9]; exact ko0))).trans (hfr0 b q6 q11))
    have hfr6_0 : ∀ b, kd b = 6 → fldI (f_38 b) 0 = fldI (f b) 0 := fun b kb => (congrArg (fun x => fldI x 0) ((congrFun ef_38 b).trans (up_ne (kd_ne ko0 kb (by decide))))).trans (hfr6_0 b kb)
    have hfr11_1 : ∀ b, kd b = 11 → fldI (f_38 b) 1 = fldI (f b) 1 := fun b kb => ((congrArg (fun x => fldI x 1) (congrFun ef_38 b)).trans (fk_up (by rw [hfo_34]; rfl) b)).trans (hfr11_1 b kb)
    have hfr11_8 : ∀ b, kd b = 11 → fldI (f_38 b) 8 = fldI (f b) 8 := fun b kb => ((congrArg (fun x => fldI x 8) (congrFun ef_38 b)).trans (fk_up (by rw [hfo_34]; rfl) b)).trans (hfr11_8 b kb)
    have hrr11_2 : ∀ b, kd b = 11 → fldR (f_38 b) 2 = fldR (f b) 2 := fun b kb => ((congrArg (fun x => fldR x 2) (congrFun ef_38 b)).trans (fr_up (by rw [hfo_34]; rfl) b)).trans (hrr11_2 b kb)
    have hrr11_3 : ∀ b, kd b = 11 → fldR (f_38 b) 3 = fldR (f b) 3 := fun b kb => ((congrArg (fun x => fldR x 3) (congrFun ef_38 b)).trans (fr_up (by rw [hfo_34]; rfl) b)).trans (hrr11_3 b kb)
    have hrr11_5 : ∀ b, kd b = 11 → fldR (f_38 b) 5 = fldR (f b) 5 := fun b kb => ((congrArg (fun x => fldR x 5) (congrFun ef_38 b)).trans (fr_up (by rw [hfo_34]; rfl) b)).trans (hrr11_5 b kb)
    have hrr11_6 : ∀ b, kd b = 11 → fldR (f_38 b) 6 = fldR (f b) 6 := fun b kb => ((congrArg (fun x => fldR x 6) (congrFun ef_38 b)).trans (fr_up (by rw [hfo_34]; rfl) b)).trans (hrr11_6 b kb)
    have hrr11_7 : ∀ b, kd b = 11 → fldR (f_38 b) 7 = fldR (f b) 7 := fun b kb => ((congrArg (fun x => fldR x 7) (congrFun ef_38 b)).trans (fr_up (by rw [hfo_34]; rfl) b)).trans (hrr11_7 b kb)
    have hrr11_9 : ∀ b, kd b = 11 → fldR (f_38 b) 9 = fldR (f b) 9 := fun b kb => ((congrArg (fun x => fldR x 9) (congrFun ef_38 b)).trans (fr_up (by rw [hfo_34]; rfl) b)).trans (hrr11_9 b kb)
    have hrr11_10 : ∀ b, kd b = 11 → fldR (f_38 b) 10 = fldR (f b) 10 := fun b kb => ((congrArg (fun x => fldR x 10) (congrFun ef_38 b)).trans (fr_up (by rw [hfo_34]; rfl) b)).trans (hrr11_10 b kb)
    have hrr11_16 : ∀ b, kd b = 11 → fldR (f_38 b) 16 = fldR (f b) 16 := fun b kb => ((congrArg (fun x => fldR x 16) (congrFun ef_38 b)).trans (fr_up (by rw [hfo_34]; rfl) b)).trans (hrr11_16 b kb)
    have hfo_40 : f_38 o0 = .inr (11, [.ref a_3, .int v_4, .ref a_5, .ref a_6, .ref a_7, .ref a_8, .ref a_9, .ref a_10, .int v_11, .ref a_12, .ref a_13, .ref a_14, .int v_15, .int v_16, .ref a_17, .int v_18, .ref a_19, .ref a_20, .int x_36]) := by rw [ef_38]; exact up_self
    refine lv_iconst (v := 1) hx hb dX11_slack_29 (by decide) ?_
    exact W.zret (v := 1) (ty := .boolean) hx hb hr rfl (fun t ht hW => ⟨⟨1, f_38, rfl, ⟨hG, (by decide), hfr0, hfr6_0, hfr11_1, hfr11_8, hrr11_2, hrr11_3, hrr11_5, hrr11_6, hrr11_7, hrr11_9, hrr11_10, hrr11_16⟩, by rw [ht]; exact hP, va_K.moved hW.alike hK, pl_in hD⟩, hS.F ht⟩) hS.2.2 dX11_slack_30
  · skip
    rw [← Int32.toInt_inj, ti_0] at c_1
    refine lv_iload_n hx hb dX11_slack_4 rfl (lv_at hl 1 rfl) ?_
    refine lv_iconst (v := 1) hx hb dX11_slack_5 (by decide) ?_
    refine lv_icmp_eq (tgt := 11) hx hb dX11_slack_6 (by decide) (fun c_41 => ?_) (fun c_41 => ?_)
    · skip
      rw [← Int32.toInt_inj, ti_1] at c_41
      refine lv_aload_n hx hb dX11_slack_11 rfl (lv_at hl 0 rfl) ?_
      obtain ⟨a_43, v_44, a_45, a_46, a_47, a_48, a_49, a_50, v_51, a_52, a_53, a_54, v_55, v_56, a_57, v_58, a_59, a_60, v_61, hfo_42, ⟨ma_43, ka_43⟩, bv_44, ⟨ma_45, ka_45⟩, ⟨ma_46, ka_46⟩, ⟨ma_47, ka_47⟩, ⟨ma_48, ka_48⟩, ⟨ma_49, ka_49⟩, ⟨ma_50, ka_50⟩, bv_51, ⟨ma_52, ka_52⟩, ⟨ma_53, ka_53⟩, ⟨ma_54, ka_54⟩, bv_55, ⟨ma_57, ka_57⟩, bv_58, ⟨ma_59, ka_59⟩, ⟨ma_60, ka_60⟩⟩ := un_11 (hG _ mo0) ko0
      have bv_56 : ((-2147483648) ≤ v_56.toInt ∧ v_56.toInt ≤ 2147483647) := ⟨i32_lo _, i32_hi _⟩
      have bv_61 : ((-2147483648) ≤ v_61.toInt ∧ v_61.toInt ≤ 2147483647) := ⟨i32_lo _, i32_hi _⟩
      refine tk_getP (D := (dC, dI)) (ci := 11) (v := .ref a_48) (C := RX11) (T := TX11) (N := 19) hx hb hU inlX11 hown hK hP mo0 hfo_42 rfl 5 (by decide) (hU _ wd_25) (fun _ h9 => h9) rfl dX11_slack_12 ?_
      refine lv_iload_n hx hb dX11_slack_15 rfl (lv_at hl 1 rfl) ?_
      obtain ⟨v_63, v_64, a_65, a_66, a_67, v_68, a_69, a_70, a_71, hfo_62, bv_64, ⟨ma_65, ka_65⟩, ⟨ma_66, ka_66⟩, ⟨ma_67, ka_67⟩, ⟨ma_69, ka_69⟩, ⟨ma_70, ka_70⟩, ⟨ma_71, ka_71⟩⟩ := un_6 (hG _ ma_48) ka_48
      have bv_63 : ((-2147483648) ≤ v_63.toInt ∧ v_63.toInt ≤ 2147483647) := ⟨i32_lo _, i32_hi _⟩
      have bv_68 : ((-2147483648) ≤ v_68.toInt ∧ v_68.toInt ≤ 2147483647) := ⟨i32_lo _, i32_hi _⟩
      refine tk_putP (D := (dC, dI)) (ci := 6) (v := .int p1) (ty := .int) (C := RX6) (T := TX6) (N := 9) hx hb hU inlX6 tyX6 tyX6_ok nmX6 hown hK hP hD hS ma_48 hfo_62 rfl 1 (by decide) (hU _ wd_694) (fun _ h9 => h9) rfl (by decide +kernel) rfl rfl (Nat.le_of_ble_eq_true rfl) dX11_slack_16 (fun H locs hP hD hS => ?_)
      obtain ⟨f_73, ef_73⟩ : ∃ y : Nat → va_E, y = va_up f a_48 (.inr (6, [.int v_63, .int p1, .ref a_65, .ref a_66, .ref a_67, .int v_68, .ref a_69, .ref a_70, .ref a_71])) := ⟨_, rfl⟩
      have hP : va_P (dC, dI) vwCl (va_pl L f_73) H := by rw [ef_73]; exact hP
      have hD : va_D (fun q => q ∈ L) (va_pl L f_73) := by rw [ef_73]; exact hD
      have hG : GI (okc cI cL cZ cR cG cH L kd) kd L f_73 := by rw [ef_73]; exact hG.set a_48 (mk_6 ka_48 ⟨v_63, p1, a_65, a_66, a_67, v_68, a_69, a_70, a_71, rfl, (by constructor <;> omega), ⟨ma_65, ka_65⟩, ⟨ma_66, ka_66⟩, ⟨ma_67, ka_67⟩, ⟨ma_69, ka_69⟩, ⟨ma_70, ka_70⟩, ⟨ma_71, ka_71⟩⟩)
      have hfo_74 : f_73 o0 = .inr (11, [.ref a_43, .int v_44, .ref a_45, .ref a_46, .ref a_47, .ref a_48, .ref a_49, .ref a_50, .int v_51, .ref a_52, .ref a_53, .ref a_54, .int v_55, .int v_56, .ref a_57, .int v_58, .ref a_59, .ref a_60, .int v_61]) := by rw [ef_73, up_ne (kd_ne ka_48 ko0 (by decide))]; exact hfo_42
      have hfr0 : ∀ b, kd b ≠ 6 → kd b ≠ 11 → f_73 b = f b := fun b q6 q11 => (congrFun ef_73 b).trans ((up_ne (fun e9 => q6 (by rw [e9]; exact ka_48))).trans (hfr0 b q6 q11))
      have hfr6_0 : ∀ b, kd b = 6 → fldI (f_73 b) 0 = fldI (f b) 0 := fun b kb => ((congrArg (fun x => fldI x 0) (congrFun ef_73 b)).trans (fk_up (by rw [hfo_62]; rfl) b)).trans (hfr6_0 b kb)
      have hfr11_1 : ∀ b, kd b = 11 → fldI (f_73 b) 1 = fldI (f b) 1 := fun b kb => (congrArg (fun x => fldI x 1) ((congrFun ef_73 b).trans (up_ne (kd_ne ka_48 kb (by decide))))).trans (hfr11_1 b kb)
      have hfr11_8 : ∀ b, kd b = 11 → fldI (f_73 b) 8 = fldI (f b) 8 := fun b kb => (congrArg (fun x => fldI x 8) ((congrFun ef_73 b).trans (up_ne (kd_ne ka_48 kb (by decide))))).trans (hfr11_8 b kb)
      have hrr11_2 : ∀ b, kd b = 11 → fldR (f_73 b) 2 = fldR (f b) 2 := fun b kb => (congrArg (fun x => fldR x 2) ((congrFun ef_73 b).trans (up_ne (kd_ne ka_48 kb (by decide))))).trans (hrr11_2 b kb)
      have hrr11_3 : ∀ b, kd b = 11 → fldR (f_73 b) 3 = fldR (f b) 3 := fun b kb => (congrArg (fun x => fldR x 3) ((congrFun ef_73 b).trans (up_ne (kd_ne ka_48 kb (by decide))))).trans (hrr11_3 b kb)
      have hrr11_5 : ∀ b, kd b = 11 → fldR (f_73 b) 5 = fldR (f b) 5 := fun b kb => (congrArg (fun x => fldR x 5) ((congrFun ef_73 b).trans (up_ne (kd_ne ka_48 kb (by decide))))).trans (hrr11_5 b kb)
      have hrr11_6 : ∀ b, kd b = 11 → fldR (f_73 b) 6 = fldR (f b) 6 := fun b kb => (congrArg (fun x => fldR x 6) ((congrFun ef_73 b).trans (up_ne (kd_ne ka_48 kb (by decide))))).trans (hrr11_6 b kb)
      have hrr11_7 : ∀ b, kd b = 11 → fldR (f_73 b) 7 = fldR (f b) 7 := fun b kb => (congrArg (fun x => fldR x 7) ((congrFun ef_73 b).trans (up_ne (kd_ne ka_48 kb (by decide))))).trans (hrr11_7 b kb)
      have hrr11_9 : ∀ b, kd b = 11 → fldR (f_73 b) 9 = fldR (f b) 9 := fun b kb => (congrArg (fun x => fldR x 9) ((congrFun ef_73 b).trans (up_ne (kd_ne ka_48 kb (by decide))))).trans (hrr11_9 b kb)
      have hrr11_10 : ∀ b, kd b = 11 → fldR (f_73 b) 10 = fldR (f b) 10 := fun b kb => (congrArg (fun x => fldR x 10) ((congrFun ef_73 b).trans (up_ne (kd_ne ka_48 kb (by decide))))).trans (hrr11_10 b kb)
      have hrr11_16 : ∀ b, kd b = 11 → fldR (f_73 b) 16 = fldR (f b) 16 := fun b kb => (congrArg (fun x => fldR x 16) ((congrFun ef_73 b).trans (up_ne (kd_ne ka_48 kb (by decide))))).trans (hrr11_16 b kb)
      have hfo_75 : f_73 a_48 = .inr (6, [.int v_63, .int p1, .ref a_65, .ref a_66, .ref a_67, .int v_68, .ref a_69, .ref a_70, .ref a_71]) := by rw [ef_73]; exact up_self
      refine lv_aload_n hx hb dX11_slack_19 rfl (lv_at hl 0 rfl) ?_
      refine lv_dup hx hb dX11_slack_20 rfl ?_
      refine tk_getP (D := (dC, dI)) (ci := 11) (v := .int v_61) (C := RX11) (T := TX11) (N := 19) hx hb hU inlX11 hown hK hP mo0 hfo_74 rfl 18 (by decide) (hU _ wd_236) (fun _ h9 => h9) rfl dX11_slack_21 ?_
      refine lv_iconst (v := 1) hx hb dX11_slack_24 (by decide) ?_
      refine lv_iadd hx hb dX11_slack_25 ?_
      refine lv_topi (fun x_76 ex_76 => ?_)
      have bx_76 : ((-2147483648) ≤ x_76.toInt ∧ x_76.toInt ≤ 2147483647) := ⟨i32_lo _, i32_hi _⟩
      refine tk_putP (D := (dC, dI)) (ci := 11) (v := .int x_76) (ty := .int) (C := RX11) (T := TX11) (N := 19) hx hb hU inlX11 tyX11 tyX11_ok nmX11 hown hK hP hD hS mo0 hfo_74 rfl 18 (by decide) (hU _ wd_236) (fun _ h9 => h9) rfl (by decide +kernel) rfl rfl (Nat.le_of_ble_eq_true rfl) dX11_slack_26 (fun H locs hP hD hS => ?_)
      obtain ⟨f_78, ef_78⟩ : ∃ y : Nat → va_E, y = va_up f_73 o0 (.inr (11, [.ref a_43, .int v_44, .ref a_45, .ref a_46, .ref a_47, .ref a_48, .ref a_49, .ref a_50, .int v_51, .ref a_52, .ref a_53, .ref a_54, .int v_55, .int v_56, .ref a_57, .int v_58, .ref a_59, .ref a_60, .int x_76])) := ⟨_, rfl⟩
      have hP : va_P (dC, dI) vwCl (va_pl L f_78) H := by rw [ef_78]; exact hP
      have hD : va_D (fun q => q ∈ L) (va_pl L f_78) := by rw [ef_78]; exact hD
      have hG : GI (okc cI cL cZ cR cG cH L kd) kd L f_78 := by rw [ef_78]; exact hG.set o0 (mk_11 ko0 ⟨a_43, v_44, a_45, a_46, a_47, a_48, a_49, a_50, v_51, a_52, a_53, a_54, v_55, v_56, a_57, v_58, a_59, a_60, x_76, rfl, ⟨ma_43, ka_43⟩, (by constructor <;> omega), ⟨ma_45, ka_45⟩, ⟨ma_46, ka_46⟩, ⟨ma_47, ka_47⟩, ⟨ma_48, ka_48⟩, ⟨ma_49, ka_49⟩, ⟨ma_50, ka_50⟩, (by constructor <;> omega), ⟨ma_52, ka_52⟩, ⟨ma_53, ka_53⟩, ⟨ma_54, ka_54⟩, (by constructor <;> omega), ⟨ma_57, ka_57⟩, (by constructor <;> omega), ⟨ma_59, ka_59⟩, ⟨ma_60, ka_60⟩⟩)
      have hfo_79 : f_78 a_48 = .inr (6, [.int v_63, .int p1, .ref a_65, .ref a_66, .ref a_67, .int v_68, .ref a_69, .ref a_70, .ref a_71]) := by rw [ef_78, up_ne (kd_ne ko0 ka_48 (by decide))]; exact hfo_75
      have hfr0 : ∀ b, kd b ≠ 6 → kd b ≠ 11 → f_78 b = f b := fun b q6 q11 => (congrFun ef_78 b).trans ((up_ne (fun e9 => q11 (by rw [e9]; exact ko0))).trans (hfr0 b q6 q11))
      have hfr6_0 : ∀ b, kd b = 6 → fldI (f_78 b) 0 = fldI (f b) 0 := fun b kb => (congrArg (fun x => fldI x 0) ((congrFun ef_78 b).trans (up_ne (kd_ne ko0 kb (by decide))))).trans (hfr6_0 b kb)
      have hfr11_1 : ∀ b, kd b = 11 → fldI (f_78 b) 1 = fldI (f b) 1 := fun b kb => ((congrArg (fun x => fldI x 1) (congrFun ef_78 b)).trans (fk_up (by rw [hfo_74]; rfl) b)).trans (hfr11_1 b kb)
      have hfr11_8 : ∀ b, kd b = 11 → fldI (f_78 b) 8 = fldI (f b) 8 := fun b kb => ((congrArg (fun x => fldI x 8) (congrFun ef_78 b)).trans (fk_up (by rw [hfo_74]; rfl) b)).trans (hfr11_8 b kb)
      have hrr11_2 : ∀ b, kd b = 11 → fldR (f_78 b) 2 = fldR (f b) 2 := fun b kb => ((congrArg (fun x => fldR x 2) (congrFun ef_78 b)).trans (fr_up (by rw [hfo_74]; rfl) b)).trans (hrr11_2 b kb)
      have hrr11_3 : ∀ b, kd b = 11 → fldR (f_78 b) 3 = fldR (f b) 3 := fun b kb => ((congrArg (fun x => fldR x 3) (congrFun ef_78 b)).trans (fr_up (by rw [hfo_74]; rfl) b)).trans (hrr11_3 b kb)
      have hrr11_5 : ∀ b, kd b = 11 → fldR (f_78 b) 5 = fldR (f b) 5 := fun b kb => ((congrArg (fun x => fldR x 5) (congrFun ef_78 b)).trans (fr_up (by rw [hfo_74]; rfl) b)).trans (hrr11_5 b kb)
      have hrr11_6 : ∀ b, kd b = 11 → fldR (f_78 b) 6 = fldR (f b) 6 := fun b kb => ((congrArg (fun x => fldR x 6) (congrFun ef_78 b)).trans (fr_up (by rw [hfo_74]; rfl) b)).trans (hrr11_6 b kb)
      have hrr11_7 : ∀ b, kd b = 11 → fldR (f_78 b) 7 = fldR (f b) 7 := fun b kb => ((congrArg (fun x => fldR x 7) (congrFun ef_78 b)).trans (fr_up (by rw [hfo_74]; rfl) b)).trans (hrr11_7 b kb)
      have hrr11_9 : ∀ b, kd b = 11 → fldR (f_78 b) 9 = fldR (f b) 9 := fun b kb => ((congrArg (fun x => fldR x 9) (congrFun ef_78 b)).trans (fr_up (by rw [hfo_74]; rfl) b)).trans (hrr11_9 b kb)
      have hrr11_10 : ∀ b, kd b = 11 → fldR (f_78 b) 10 = fldR (f b) 10 := fun b kb => ((congrArg (fun x => fldR x 10) (congrFun ef_78 b)).trans (fr_up (by rw [hfo_74]; rfl) b)).trans (hrr11_10 b kb)
      have hrr11_16 : ∀ b, kd b = 11 → fldR (f_78 b) 16 = fldR (f b) 16 := fun b kb => ((congrArg (fun x => fldR x 16) (congrFun ef_78 b)).trans (fr_up (by rw [hfo_74]; rfl) b)).trans (hrr11_16 b kb)
      have hfo_80 : f_78 o0 = .inr (11, [.ref a_43, .int v_44, .ref a_45, .ref a_46, .ref a_47, .ref a_48, .ref a_49, .ref a_50, .int v_51, .ref a_52, .ref a_53, .ref a_54, .int v_55, .int v_56, .ref a_57, .int v_58, .ref a_59, .ref a_60, .int x_76]) := by rw [ef_78]; exact up_self
      refine lv_iconst (v := 1) hx hb dX11_slack_29 (by decide) ?_
      exact W.zret (v := 1) (ty := .boolean) hx hb hr rfl (fun t ht hW => ⟨⟨1, f_78, rfl, ⟨hG, (by decide), hfr0, hfr6_0, hfr11_1, hfr11_8, hrr11_2, hrr11_3, hrr11_5, hrr11_6, hrr11_7, hrr11_9, hrr11_10, hrr11_16⟩, by rw [ht]; exact hP, va_K.moved hW.alike hK, pl_in hD⟩, hS.F ht⟩) hS.2.2 dX11_slack_30
    · skip
      rw [← Int32.toInt_inj, ti_1] at c_41
      refine lv_iconst (v := 0) hx hb dX11_slack_9 (by decide) ?_
      exact W.zret (v := 0) (ty := .boolean) hx hb hr rfl (fun t ht hW => ⟨⟨0, f, rfl, ⟨hG, (by decide), hfr0, hfr6_0, hfr11_1, hfr11_8, hrr11_2, hrr11_3, hrr11_5, hrr11_6, hrr11_7, hrr11_9, hrr11_10, hrr11_16⟩, by rw [ht]; exact hP, va_K.moved hW.alike hK, pl_in hD⟩, hS.F ht⟩) hS.2.2 dX11_slack_10
set_option maxHeartbeats 8000000 in
set_option maxRecDepth 100000 in
theorem s_X11_where_k11 (l : Launch) (D : va_G) (cI cL cZ cR cG cH : ClassId) (Z : zT) (kd : Nat → Nat) (L : List Nat) (f : Nat → va_E) (hG : GI (okc cI cL cZ cR cG cH L kd) kd L f) (o0 : Nat) (mo0 : o0 ∈ L) (ko0 : kd o0 = 11) : mPI l D cI cL cZ cR cG cH Z yX11_where cX11_where 1 (some .int) 0 0 [.ref o0] L f (fun (r : Int32) (f9 : Nat → va_E) => f = f9 ∧ ((-2147483648) ≤ r.toInt ∧ r.toInt ≤ 2147483647)) := by
  obtain ⟨dC, dI⟩ := D
  refine Met.ofW (cc := cX11_where) (maxL := 1) (ret := (some .int)) (by decide) rfl ?_
  intro p e s m args below meth c s₁ B hml hv
  obtain ⟨rfl, hP, hK, hD0, hN, hZ⟩ := hv
  have hx := B.exec
  have hb := B.bytes
  have hr := B.returns
  have hU : ∀ w ∈ wsU, w.before _ s = true := fun w h => atoms_spec (ws := wU yX11_where cX11_where 1 (some .int)) B.pre w (List.mem_cons_of_mem _ h)
  have hown : s.vm.findClass RX11 = some m.cls := findClass_of_methodNamed B.named
  have hlocks := B.notSynchronized
  have hD := pl_in hD0
  have hS : va_S (fun q => q ∈ L) s.heap s.heap [] := va_S.rf
  have hl := lv_entry ([.ref o0]) (n := 1) (Nat.le_of_ble_eq_true rfl)
  rw [lg_entry_eq]
  generalize (lg_sl ([.ref o0]) ++ List.replicate (1 - (lg_sl ([.ref o0])).length) Slot.unset).toArray = ls at hl ⊢
  have hl : lv_has ls 1 [(0, .ref o0)] := hl
  refine lv_aload_n hx hb dX11_where_0 rfl (lv_at hl 0 rfl) ?_
  obtain ⟨a_2, v_3, a_4, a_5, a_6, a_7, a_8, a_9, v_10, a_11, a_12, a_13, v_14, v_15, a_16, v_17, a_18, a_19, v_20, hfo_1, ⟨ma_2, ka_2⟩, bv_3, ⟨ma_4, ka_4⟩, ⟨ma_5, ka_5⟩, ⟨ma_6, ka_6⟩, ⟨ma_7, ka_7⟩, ⟨ma_8, ka_8⟩, ⟨ma_9, ka_9⟩, bv_10, ⟨ma_11, ka_11⟩, ⟨ma_12, ka_12⟩, ⟨ma_13, ka_13⟩, bv_14, ⟨ma_16, ka_16⟩, bv_17, ⟨ma_18, ka_18⟩, ⟨ma_19, ka_19⟩⟩ := un_11 (hG _ mo0) ko0
  have bv_15 : ((-2147483648) ≤ v_15.toInt ∧ v_15.toInt ≤ 2147483647) := ⟨i32_lo _, i32_hi _⟩
  have bv_20 : ((-2147483648) ≤ v_20.toInt ∧ v_20.toInt ≤ 2147483647) := ⟨i32_lo _, i32_hi _⟩
  refine tk_getP (D := (dC, dI)) (ci := 11) (v := .int v_15) (C := RX11) (T := TX11) (N := 19) hx hb hU inlX11 hown hK hP mo0 hfo_1 rfl 13 (by decide) (hU _ wd_40) (fun _ h9 => h9) rfl dX11_where_1 ?_
  exact W.iret (v := v_15) hx hb hr (fun t ht hW => ⟨⟨v_15, f, rfl, ⟨rfl, (by constructor <;> omega)⟩, by rw [ht]; exact hP, va_K.moved hW.alike hK, pl_in hD⟩, hS.F ht⟩) hS.2.2 dX11_where_4
set_option maxHeartbeats 8000000 in
set_option maxRecDepth 100000 in
theorem s_X11_fault_k11 (l : Launch) (D : va_G) (cI cL cZ cR cG cH : ClassId) (Z : zT) (kd : Nat → Nat) (L : List Nat) (f : Nat → va_E) (hG : GI (okc cI cL cZ cR cG cH L kd) kd L f) (o0 : Nat) (mo0 : o0 ∈ L) (ko0 : kd o0 = 11) (p1 : Int32) : mPI l D cI cL cZ cR cG cH Z yX11_fault cX11_fault 2 (some .int) 0 0 [.ref o0, .int p1] L f (fun (r : Int32) (f9 : Nat → va_E) => f = f9 ∧ ((-2147483648) ≤ r.toInt ∧ r.toInt ≤ 2147483647)) := by
  obtain ⟨dC, dI⟩ := D
  refine Met.ofW (cc := cX11_fault) (maxL := 2) (ret := (some .int)) (by decide) rfl ?_
  intro p e s m args below meth c s₁ B hml hv
  obtain ⟨rfl, hP, hK, hD0, hN, hZ⟩ := hv
  have hx := B.exec
  have hb := B.bytes
  have hr := B.returns
  have hU : ∀ w ∈ wsU, w.before _ s = true := fun w h => atoms_spec (ws := wU yX11_fault cX11_fault 2 (some .int)) B.pre w (List.mem_cons_of_mem _ h)
  have hown : s.vm.findClass RX11 = some m.cls := findClass_of_methodNamed B.named
  have hlocks := B.notSynchronized
  have hD := pl_in hD0
  have hS : va_S (fun q => q ∈ L) s.heap s.heap [] := va_S.rf
  have hl := lv_entry ([.ref o0, .int p1]) (n := 2) (Nat.le_of_ble_eq_true rfl)
  rw [lg_entry_eq]
  generalize (lg_sl ([.ref o0, .int p1]) ++ List.replicate (2 - (lg_sl ([.ref o0, .int p1])).length) Slot.unset).toArray = ls at hl ⊢
  have hl : lv_has ls 2 [(0, .ref o0), (1, .int p1)] := hl
  have bp1 : ((-2147483648) ≤ p1.toInt ∧ p1.toInt ≤ 2147483647) := ⟨i32_lo _, i32_hi _⟩
  refine lv_iload_n hx hb dX11_fault_0 rfl (lv_at hl 1 rfl) ?_
  refine lv_if_ne (tgt := 12) hx hb dX11_fault_1 (by decide) (fun c_1 => ?_) (fun c_1 => ?_)
  · skip
    rw [← Int32.toInt_inj, ti_0] at c_1
    refine lv_iload_n hx hb dX11_fault_12 rfl (lv_at hl 1 rfl) ?_
    refine lv_iconst (v := 1) hx hb dX11_fault_13 (by decide) ?_
    refine lv_icmp_ne (tgt := 27) hx hb dX11_fault_14 (by decide) (fun c_2 => ?_) (fun c_2 => ?_)
    · skip
      rw [← Int32.toInt_inj, ti_1] at c_2
      refine lv_iconst (v := (-1)) hx hb dX11_fault_27 (by decide) ?_
      exact W.iret (v := (-1)) hx hb hr (fun t ht hW => ⟨⟨(-1), f, rfl, ⟨rfl, (by decide)⟩, by rw [ht]; exact hP, va_K.moved hW.alike hK, pl_in hD⟩, hS.F ht⟩) hS.2.2 dX11_fault_28
    · skip
      rw [← Int32.toInt_inj, ti_1] at c_2
      refine lv_aload_n hx hb dX11_fault_17 rfl (lv_at hl 0 rfl) ?_
      obtain ⟨a_4, v_5, a_6, a_7, a_8, a_9, a_10, a_11, v_12, a_13, a_14, a_15, v_16, v_17, a_18, v_19, a_20, a_21, v_22, hfo_3, ⟨ma_4, ka_4⟩, bv_5, ⟨ma_6, ka_6⟩, ⟨ma_7, ka_7⟩, ⟨ma_8, ka_8⟩, ⟨ma_9, ka_9⟩, ⟨ma_10, ka_10⟩, ⟨ma_11, ka_11⟩, bv_12, ⟨ma_13, ka_13⟩, ⟨ma_14, ka_14⟩, ⟨ma_15, ka_15⟩, bv_16, ⟨ma_18, ka_18⟩, bv_19, ⟨ma_20, ka_20⟩, ⟨ma_21, ka_21⟩⟩ := un_11 (hG _ mo0) ko0
      have bv_17 : ((-2147483648) ≤ v_17.toInt ∧ v_17.toInt ≤ 2147483647) := ⟨i32_lo _, i32_hi _⟩
      have bv_22 : ((-2147483648) ≤ v_22.toInt ∧ v_22.toInt ≤ 2147483647) := ⟨i32_lo _, i32_hi _⟩
      refine tk_getP (D := (dC, dI)) (ci := 11) (v := .ref a_13) (C := RX11) (T := TX11) (N := 19) hx hb hU inlX11 hown hK hP mo0 hfo_3 rfl 9 (by decide) (hU _ wd_34) (fun _ h9 => h9) rfl dX11_fault_18 ?_
      obtain ⟨a_24, v_25, v_26, a_27, v_28, v_29, v_30, v_31, v_32, v_33, hfo_23, ⟨ma_24, ka_24⟩, ⟨ma_27, ka_27⟩, bv_28, bv_29, bv_30, bv_31, bv_32⟩ := un_2 (hG _ ma_13) ka_13
      have bv_25 : ((-2147483648) ≤ v_25.toInt ∧ v_25.toInt ≤ 2147483647) := ⟨i32_lo _, i32_hi _⟩
      have bv_26 : ((-2147483648) ≤ v_26.toInt ∧ v_26.toInt ≤ 2147483647) := ⟨i32_lo _, i32_hi _⟩
      have bv_33 : ((-2147483648) ≤ v_33.toInt ∧ v_33.toInt ≤ 2147483647) := ⟨i32_lo _, i32_hi _⟩
      refine tk_getP (D := (dC, dI)) (ci := 2) (v := .int v_26) (C := RX2) (T := TX2) (N := 10) hx hb hU inlX2 hown hK hP ma_13 hfo_23 rfl 2 (by decide) (hU _ wd_668) (fun _ h9 => h9) rfl dX11_fault_21 ?_
      refine lv_goto (tgt := 28) hx hb dX11_fault_24 (by decide) ?_
      exact W.iret (v := v_26) hx hb hr (fun t ht hW => ⟨⟨v_26, f, rfl, ⟨rfl, (by constructor <;> omega)⟩, by rw [ht]; exact hP, va_K.moved hW.alike hK, pl_in hD⟩, hS.F ht⟩) hS.2.2 dX11_fault_28
  · skip
    rw [← Int32.toInt_inj, ti_0] at c_1
    refine lv_aload_n hx hb dX11_fault_4 rfl (lv_at hl 0 rfl) ?_
    obtain ⟨a_35, v_36, a_37, a_38, a_39, a_40, a_41, a_42, v_43, a_44, a_45, a_46, v_47, v_48, a_49, v_50, a_51, a_52, v_53, hfo_34, ⟨ma_35, ka_35⟩, bv_36, ⟨ma_37, ka_37⟩, ⟨ma_38, ka_38⟩, ⟨ma_39, ka_39⟩, ⟨ma_40, ka_40⟩, ⟨ma_41, ka_41⟩, ⟨ma_42, ka_42⟩, bv_43, ⟨ma_44, ka_44⟩, ⟨ma_45, ka_45⟩, ⟨ma_46, ka_46⟩, bv_47, ⟨ma_49, ka_49⟩, bv_50, ⟨ma_51, ka_51⟩, ⟨ma_52, ka_52⟩⟩ := un_11 (hG _ mo0) ko0
    have bv_48 : ((-2147483648) ≤ v_48.toInt ∧ v_48.toInt ≤ 2147483647) := ⟨i32_lo _, i32_hi _⟩
    have bv_53 : ((-2147483648) ≤ v_53.toInt ∧ v_53.toInt ≤ 2147483647) := ⟨i32_lo _, i32_hi _⟩
    refine tk_getP (D := (dC, dI)) (ci := 11) (v := .ref a_44) (C := RX11) (T := TX11) (N := 19) hx hb hU inlX11 hown hK hP mo0 hfo_34 rfl 9 (by decide) (hU _ wd_34) (fun _ h9 => h9) rfl dX11_fault_5 ?_
    obtain ⟨a_55, v_56, v_57, a_58, v_59, v_60, v_61, v_62, v_63, v_64, hfo_54, ⟨ma_55, ka_55⟩, ⟨ma_58, ka_58⟩, bv_59, bv_60, bv_61, bv_62, bv_63⟩ := un_2 (hG _ ma_44) ka_44
    have bv_56 : ((-2147483648) ≤ v_56.toInt ∧ v_56.toInt ≤ 2147483647) := ⟨i32_lo _, i32_hi _⟩
    have bv_57 : ((-2147483648) ≤ v_57.toInt ∧ v_57.toInt ≤ 2147483647) := ⟨i32_lo _, i32_hi _⟩
    have bv_64 : ((-2147483648) ≤ v_64.toInt ∧ v_64.toInt ≤ 2147483647) := ⟨i32_lo _, i32_hi _⟩
    refine tk_getP (D := (dC, dI)) (ci := 2) (v := .int v_56) (C := RX2) (T := TX2) (N := 10) hx hb hU inlX2 hown hK hP ma_44 hfo_54 rfl 1 (by decide) (hU _ wd_667) (fun _ h9 => h9) rfl dX11_fault_8 ?_
    exact W.iret (v := v_56) hx hb hr (fun t ht hW => ⟨⟨v_56, f, rfl, ⟨rfl, (by constructor <;> omega)⟩, by rw [ht]; exact hP, va_K.moved hW.alike hK, pl_in hD⟩, hS.F ht⟩) hS.2.2 dX11_fault_11
set_option maxHeartbeats 8000000 in
set_option maxRecDepth 100000 in
theorem s_X11_use_k11 (l : Launch) (D : va_G) (cI cL cZ cR cG cH : ClassId) (Z : zT) (kd : Nat → Nat) (L : List Nat) (f : Nat → va_E) (hG : GI (okc cI cL cZ cR cG cH L kd) kd L f) (o0 : Nat) (mo0 : o0 ∈ L) (ko0 : kd o0 = 11) (p1 : Int32) : mPI l D cI cL cZ cR cG cH Z yX11_use cX11_use 2 (some .boolean) 1 21 [.ref o0, .int p1] L f (fun (r : Int32) (f9 : Nat → va_E) => GI (okc cI cL cZ cR cG cH L kd) kd L f9 ∧ (0 ≤ r.toInt ∧ r.toInt ≤ 1) ∧ (∀ b, kd b ≠ 6 → kd b ≠ 11 → f9 b = f b) ∧ (∀ b, kd b = 11 → fldI (f9 b) 1 = fldI (f b) 1) ∧ (∀ b, kd b = 11 → fldI (f9 b) 8 = fldI (f b) 8) ∧ (∀ b, kd b = 11 → fldR (f9 b) 2 = fldR (f b) 2) ∧ (∀ b, kd b = 11 → fldR (f9 b) 3 = fldR (f b) 3) ∧ (∀ b, kd b = 11 → fldR (f9 b) 5 = fldR (f b) 5) ∧ (∀ b, kd b = 11 → fldR (f9 b) 6 = fldR (f b) 6) ∧ (∀ b, kd b = 11 → fldR (f9 b) 7 = fldR (f b) 7) ∧ (∀ b, kd b = 11 → fldR (f9 b) 9 = fldR (f b) 9) ∧ (∀ b, kd b = 11 → fldR (f9 b) 10 = fldR (f b) 10) ∧ (∀ b, kd b = 11 → fldR (f9 b) 16 = fldR (f b) 16)) := by
  obtain ⟨dC, dI⟩ := D
  refine Met.ofW (cc := cX11_use) (maxL := 2) (ret := (some .boolean)) (by decide) rfl ?_
  intro p e s m args below meth c s₁ B hml hv
  obtain ⟨rfl, hP, hK, hD0, hN, hZ⟩ := hv
  have hx := B.exec
  have hb := B.bytes
  have hr := B.returns
  have hU : ∀ w ∈ wsU, w.before _ s = true := fun w h => atoms_spec (ws := wU yX11_use cX11_use 2 (some .boolean)) B.pre w (List.mem_cons_of_mem _ h)
  have hown : s.vm.findClass RX11 = some m.cls := findClass_of_methodNamed B.named
  have hlocks := B.notSynchronized
  have hD := pl_in hD0
  have hS : va_S (fun q => q ∈ L) s.heap s.heap [] := va_S.rf
  have hl := lv_entry ([.ref o0, .int p1]) (n := 2) (Nat.le_of_ble_eq_true rfl)
  rw [lg_entry_eq]
  generalize (lg_sl ([.ref o0, .int p1]) ++ List.replicate (2 - (lg_sl ([.ref o0, .int p1])).length) Slot.unset).toArray = ls at hl ⊢
  have hl : lv_has ls 2 [(0, .ref o0), (1, .int p1)] := hl
  have bp1 : ((-2147483648) ≤ p1.toInt ∧ p1.toInt ≤ 2147483647) := ⟨i32_lo _, i32_hi _⟩
  have hfr0 : ∀ b, kd b ≠ 6 → kd b ≠ 11 → f b = f b := fun _ _ _ => rfl
  have hfr11_1 : ∀ b, kd b = 11 → fldI (f b) 1 = fldI (f b) 1 := fun _ _ => rfl
  have hfr11_8 : ∀ b, kd b = 11 → fldI (f b) 8 = fldI (f b) 8 := fun _ _ => rfl
  have hrr11_2 : ∀ b, kd b = 11 → fldR (f b) 2 = fldR (f b) 2 := fun _ _ => rfl
  have hrr11_3 : ∀ b, kd b = 11 → fldR (f b) 3 = fldR (f b) 3 := fun _ _ => rfl
  have hrr11_5 : ∀ b, kd b = 11 → fldR (f b) 5 = fldR (f b) 5 := fun _ _ => rfl
  have hrr11_6 : ∀ b, kd b = 11 → fldR (f b) 6 = fldR (f b) 6 := fun _ _ => rfl
  have hrr11_7 : ∀ b, kd b = 11 → fldR (f b) 7 = fldR (f b) 7 := fun _ _ => rfl
  have hrr11_9 : ∀ b, kd b = 11 → fldR (f b) 9 = fldR (f b) 9 := fun _ _ => rfl
  have hrr11_10 : ∀ b, kd b = 11 → fldR (f b) 10 = fldR (f b) 10 := fun _ _ => rfl
  have hrr11_16 : ∀ b, kd b = 11 → fldR (f b) 16 = fldR (f b) 16 := fun _ _ => rfl
  refine lv_aload_n hx hb dX11_use_0 rfl (lv_at hl 0 rfl) ?_
  refine lv_iload_n hx hb dX11_use_1 rfl (lv_at hl 1 rfl) ?_
  obtain ⟨a_2, v_3, a_4, a_5, a_6, a_7, a_8, a_9, v_10, a_11, a_12, a_13, v_14, v_15, a_16, v_17, a_18, a_19, v_20, hfo_1, ⟨ma_2, ka_2⟩, bv_3, ⟨ma_4, ka_4⟩, ⟨ma_5, ka_5⟩, ⟨ma_6, ka_6⟩, ⟨ma_7, ka_7⟩, ⟨ma_8, ka_8⟩, ⟨ma_9, ka_9⟩, bv_10, ⟨ma_11, ka_11⟩, ⟨ma_12, ka_12⟩, ⟨ma_13, ka_13⟩, bv_14, ⟨ma_16, ka_16⟩, bv_17, ⟨ma_18, ka_18⟩, ⟨ma_19, ka_19⟩⟩ := un_11 (hG _ mo0) ko0
  have bv_15 : ((-2147483648) ≤ v_15.toInt ∧ v_15.toInt ≤ 2147483647) := ⟨i32_lo _, i32_hi _⟩
  have bv_20 : ((-2147483648) ≤ v_20.toInt ∧ v_20.toInt ≤ 2147483647) := ⟨i32_lo _, i32_hi _⟩
  refine tk_ViP (As := [.int p1]) (rest := []) (n := 1) hx hb hml hown hU hN hZ (s_X11_isSet_k11 l (dC, dI) cI cL cZ cR cG cH Z kd L f hG o0 mo0 ko0 p1) wd_678 wd_679 wd_680 wd_2 wd_681 (by decide +kernel) ⟨Nat.le_of_ble_eq_true rfl, Nat.le_of_ble_eq_true rfl⟩ hK hP hD hS mo0 hfo_1 11 rfl rfl rfl hl.1 rfl (Nat.le_of_ble_eq_true rfl) dX11_use_2 ⟨Nat.le_of_ble_eq_true rfl, Nat.le_of_ble_eq_true rfl⟩ (fun x_21 f_22 H locs hw hP hD hS => ?_)
  obtain ⟨rfl, bx_21, relx_21⟩ := hw
  refine lv_if_ne (tgt := 10) hx hb dX11_use_5 (by decide) (fun c_24 => ?_) (fun c_24 => ?_)
  · skip
    rw [← Int32.toInt_inj, ti_0] at c_24
    refine lv_aload_n hx hb dX11_use_10 rfl (lv_at hl 0 rfl) ?_
    refine tk_getP (D := (dC, dI)) (ci := 11) (v := .ref a_7) (C := RX11) (T := TX11) (N := 19) hx hb hU inlX11 hown hK hP mo0 hfo_1 rfl 5 (by decide) (hU _ wd_25) (fun _ h9 => h9) rfl dX11_use_11 ?_
    refine lv_iload_n hx hb dX11_use_14 rfl (lv_at hl 1 rfl) ?_
    obtain ⟨v_26, v_27, a_28, a_29, a_30, v_31, a_32, a_33, a_34, hfo_25, bv_27, ⟨ma_28, ka_28⟩, ⟨ma_29, ka_29⟩, ⟨ma_30, ka_30⟩, ⟨ma_32, ka_32⟩, ⟨ma_33, ka_33⟩, ⟨ma_34, ka_34⟩⟩ := un_6 (hG _ ma_7) ka_7
    have bv_26 : ((-2147483648) ≤ v_26.toInt ∧ v_26.toInt ≤ 2147483647) := ⟨i32_lo _, i32_hi _⟩
    have bv_31 : ((-2147483648) ≤ v_31.toInt ∧ v_31.toInt ≤ 2147483647) := ⟨i32_lo _, i32_hi _⟩
    refine tk_putP (D := (dC, dI)) (ci := 6) (v := .int p1) (ty := .int) (C := RX6) (T := TX6) (N := 9) hx hb hU inlX6 tyX6 tyX6_ok nmX6 hown hK hP hD hS ma_7 hfo_25 rfl 0 (by decide) (hU _ wd_677) (fun _ h9 => h9) rfl (by decide +kernel) rfl rfl (Nat.le_of_ble_eq_true rfl) dX11_use_15 (fun H locs hP hD hS => ?_)
    obtain ⟨f_36, ef_36⟩ : ∃ y : Nat → va_E, y = va_up f a_7 (.inr (6, [.int p1, .int v_27, .ref a_28, .ref a_29, .ref a_30, .int v_31, .ref a_32, .ref a_33, .ref a_34])) := ⟨_, rfl⟩
    have hP : va_P (dC, dI) vwCl (va_pl L f_36) H := by rw [ef_36]; exact hP
    have hD : va_D (fun q => q ∈ L) (va_pl L f_36) := by rw [ef_36]; exact hD
    have hG : GI (okc cI cL cZ cR cG cH L kd) kd L f_36 := by rw [ef_36]; exact hG.set a_7 (mk_6 ka_7 ⟨p1, v_27, a_28, a_29, a_30, v_31, a_32, a_33, a_34, rfl, (by constructor <;> omega), ⟨ma_28, ka_28⟩, ⟨ma_29, ka_29⟩, ⟨ma_30, ka_30⟩, ⟨ma_32, ka_32⟩, ⟨ma_33, ka_33⟩, ⟨ma_34, ka_34⟩⟩)
    have hfo_37 : f_36 o0 = .inr (11, [.ref a_2, .int v_3, .ref a_4, .ref a_5, .ref a_6, .ref a_7, .ref a_8, .ref a_9, .int v_10, .ref a_11, .ref a_12, .ref a_13, .int v_14, .int v_15, .ref a_16, .int v_17, .ref a_18, .ref a_19, .int v_20]) := by rw [ef_36, up_ne (kd_ne ka_7 ko0 (by decide))]; exact hfo_1
    have hfr0 : ∀ b, kd b ≠ 6 → kd b ≠ 11 → f_36 b = f b := fun b q6 q11 => (congrFun ef_36 b).trans ((up_ne (fun e9 => q6 (by rw [e9]; exact ka_7))).trans (hfr0 b q6 q11))
    have hfr11_1 : ∀ b, kd b = 11 → fldI (f_36 b) 1 = fldI (f b) 1 := fun b kb => (congrArg (fun x => fldI x 1) ((congrFun ef_36 b).trans (up_ne (kd_ne ka_7 kb (by decide))))).trans (hfr11_1 b kb)
    have hfr11_8 : ∀ b, kd b = 11 → fldI (f_36 b) 8 = fldI (f b) 8 := fun b kb => (congrArg (fun x => fldI x 8) ((congrFun ef_36 b).trans (up_ne (kd_ne ka_7 kb (by decide))))).trans (hfr11_8 b kb)
    have hrr11_2 : ∀ b, kd b = 11 → fldR (f_36 b) 2 = fldR (f b) 2 := fun b kb => (congrArg (fun x => fldR x 2) ((congrFun ef_36 b).trans (up_ne (kd_ne ka_7 kb (by decide))))).trans (hrr11_2 b kb)
    have hrr11_3 : ∀ b, kd b = 11 → fldR (f_36 b) 3 = fldR (f b) 3 := fun b kb => (congrArg (fun x => fldR x 3) ((congrFun ef_36 b).trans (up_ne (kd_ne ka_7 kb (by decide))))).trans (hrr11_3 b kb)
    have hrr11_5 : ∀ b, kd b = 11 → fldR (f_36 b) 5 = fldR (f b) 5 := fun b kb => (congrArg (fun x => fldR x 5) ((congrFun ef_36 b).trans (up_ne (kd_ne ka_7 kb (by decide))))).trans (hrr11_5 b kb)
    have hrr11_6 : ∀ b, kd b = 11 → fldR (f_36 b) 6 = fldR (f b) 6 := fun b kb => (congrArg (fun x => fldR x 6) ((congrFun ef_36 b).trans (up_ne (kd_ne ka_7 kb (by decide))))).trans (hrr11_6 b kb)
    have hrr11_7 : ∀ b, kd b = 11 → fldR (f_36 b) 7 = fldR (f b) 7 := fun b kb => (congrArg (fun x => fldR x 7) ((congrFun ef_36 b).trans (up_ne (kd_ne ka_7 kb (by decide))))).trans (hrr11_7 b kb)
    have hrr11_9 : ∀ b, kd b = 11 → fldR (f_36 b) 9 = fldR (f b) 9 := fun b kb => (congrArg (fun x => fldR x 9) ((congrFun ef_36 b).trans (up_ne (kd_ne ka_7 kb (by decide))))).trans (hrr11_9 b kb)
    have hrr11_10 : ∀ b, kd b = 11 → fldR (f_36 b) 10 = fldR (f b) 10 := fun b kb => (congrArg (fun x => fldR x 10) ((congrFun ef_36 b).trans (up_ne (kd_ne ka_7 kb (by decide))))).trans (hrr11_10 b kb)
    have hrr11_16 : ∀ b, kd b = 11 → fldR (f_36 b) 16 = fldR (f b) 16 := fun b kb => (congrArg (fun x => fldR x 16) ((congrFun ef_36 b).trans (up_ne (kd_ne ka_7 kb (by decide))))).trans (hrr11_16 b kb)
    have hfo_38 : f_36 a_7 = .inr (6, [.int p1, .int v_27, .ref a_28, .ref a_29, .ref a_30, .int v_31, .ref a_32, .ref a_33, .ref a_34]) := by rw [ef_36]; exact up_self
    refine lv_aload_n hx hb dX11_use_18 rfl (lv_at hl 0 rfl) ?_
    refine lv_dup hx hb dX11_use_19 rfl ?_
    refine tk_getP (D := (dC, dI)) (ci := 11) (v := .int v_20) (C := RX11) (T := TX11) (N := 19) hx hb hU inlX11 hown hK hP mo0 hfo_37 rfl 18 (by decide) (hU _ wd_236) (fun _ h9 => h9) rfl dX11_use_20 ?_
    refine lv_iconst (v := 1) hx hb dX11_use_23 (by decide) ?_
    refine lv_iadd hx hb dX11_use_24 ?_
    refine lv_topi (fun x_39 ex_39 => ?_)
    have bx_39 : ((-2147483648) ≤ x_39.toInt ∧ x_39.toInt ≤ 2147483647) := ⟨i32_lo _, i32_hi _⟩
    refine tk_putP (D := (dC, dI)) (ci := 11) (v := .int x_39) (ty := .int) (C := RX11) (T := TX11) (N := 19) hx hb hU inlX11 tyX11 tyX11_ok nmX11 hown hK hP hD hS mo0 hfo_37 rfl 18 (by decide) (hU _ wd_236) (fun _ h9 => h9) rfl (by decide +kernel) rfl rfl (Nat.le_of_ble_eq_true rfl) dX11_use_25 (fun H locs hP hD hS => ?_)
    obtain ⟨f_41, ef_41⟩ : ∃ y : Nat → va_E, y = va_up f_36 o0 (.inr (11, [.ref a_2, .int v_3, .ref a_4, .ref a_5, .ref a_6, .ref a_7, .ref a_8, .ref a_9, .int v_10, .ref a_11, .ref a_12, .ref a_13, .int v_14, .int v_15, .ref a_16, .int v_17, .ref a_18, .ref a_19, .int x_39])) := ⟨_, rfl⟩
    have hP : va_P (dC, dI) vwCl (va_pl L f_41) H := by rw [ef_41]; exact hP
    have hD : va_D (fun q => q ∈ L) (va_pl L f_41) := by rw [ef_41]; exact hD
    have hG : GI (okc cI cL cZ cR cG cH L kd) kd L f_41 := by rw [ef_41]; exact hG.set o0 (mk_11 ko0 ⟨a_2, v_3, a_4, a_5, a_6, a_7, a_8, a_9, v_10, a_11, a_12, a_13, v_14, v_15, a_16, v_17, a_18, a_19, x_39, rfl, ⟨ma_2, ka_2⟩, (by constructor <;> omega), ⟨ma_4, ka_4⟩, ⟨ma_5, ka_5⟩, ⟨ma_6, ka_6⟩, ⟨ma_7, ka_7⟩, ⟨ma_8, ka_8⟩, ⟨ma_9, ka_9⟩, (by constructor <;> omega), ⟨ma_11, ka_11⟩, ⟨ma_12, ka_12⟩, ⟨ma_13, ka_13⟩, (by constructor <;> omega), ⟨ma_16, ka_16⟩, (by constructor <;> omega), ⟨ma_18, ka_18⟩, ⟨ma_19, ka_19⟩⟩)
    have hfo_42 : f_41 a_7 = .inr (6, [.int p1, .int v_27, .ref a_28, .ref a_29, .ref a_30, .int v_31, .ref a_32, .ref a_33, .ref a_34]) := by rw [ef_41, up_ne (kd_ne ko0 ka_7 (by decide))]; exact hfo_38
    have hfr0 : ∀ b, kd b ≠ 6 → kd b ≠ 11 → f_41 b = f b := fun b q6 q11 => (congrFun ef_41 b).trans ((up_ne (fun e9 => q11 (by rw [e9]; exact ko0))).trans (hfr0 b q6 q11))
    have hfr11_1 : ∀ b, kd b = 11 → fldI (f_41 b) 1 = fldI (f b) 1 := fun b kb => ((congrArg (fun x => fldI x 1) (congrFun ef_41 b)).trans (fk_up (by rw [hfo_37]; rfl) b)).trans (hfr11_1 b kb)
    have hfr11_8 : ∀ b, kd b = 11 → fldI (f_41 b) 8 = fldI (f b) 8 := fun b kb => ((congrArg (fun x => fldI x 8) (congrFun ef_41 b)).trans (fk_up (by rw [hfo_37]; rfl) b)).trans (hfr11_8 b kb)
    have hrr11_2 : ∀ b, kd b = 11 → fldR (f_41 b) 2 = fldR (f b) 2 := fun b kb => ((congrArg (fun x => fldR x 2) (congrFun ef_41 b)).trans (fr_up (by rw [hfo_37]; rfl) b)).trans (hrr11_2 b kb)
    have hrr11_3 : ∀ b, kd b = 11 → fldR (f_41 b) 3 = fldR (f b) 3 := fun b kb => ((congrArg (fun x => fldR x 3) (congrFun ef_41 b)).trans (fr_up (by rw [hfo_37]; rfl) b)).trans (hrr11_3 b kb)
    have hrr11_5 : ∀ b, kd b = 11 → fldR (f_41 b) 5 = fldR (f b) 5 := fun b kb => ((congrArg (fun x => fldR x 5) (congrFun ef_41 b)).trans (fr_up (by rw [hfo_37]; rfl) b)).trans (hrr11_5 b kb)
    have hrr11_6 : ∀ b, kd b = 11 → fldR (f_41 b) 6 = fldR (f b) 6 := fun b kb => ((congrArg (fun x => fldR x 6) (congrFun ef_41 b)).trans (fr_up (by rw [hfo_37]; rfl) b)).trans (hrr11_6 b kb)
    have hrr11_7 : ∀ b, kd b = 11 → fldR (f_41 b) 7 = fldR (f b) 7 := fun b kb => ((congrArg (fun x => fldR x 7) (congrFun ef_41 b)).trans (fr_up (by rw [hfo_37]; rfl) b)).trans (hrr11_7 b kb)
    have hrr11_9 : ∀ b, kd b = 11 → fldR (f_41 b) 9 = fldR (f b) 9 := fun b kb => ((congrArg (fun x => fldR x 9) (congrFun ef_41 b)).trans (fr_up (by rw [hfo_37]; rfl) b)).trans (hrr11_9 b kb)
    have hrr11_10 : ∀ b, kd b = 11 → fldR (f_41 b) 10 = fldR (f b) 10 := fun b kb => ((congrArg (fun x => fldR x 10) (congrFun ef_41 b)).trans (fr_up (by rw [hfo_37]; rfl) b)).trans (hrr11_10 b kb)
    have hrr11_16 : ∀ b, kd b = 11 → fldR (f_41 b) 16 = fldR (f b) 16 := fun b kb => ((congrArg (fun x => fldR x 16) (congrFun ef_41 b)).trans (fr_up (by rw [hfo_37]; rfl) b)).trans (hrr11_16 b kb)
    have hfo_43 : f_41 o0 = .inr (11, [.ref a_2, .int v_3, .ref a_4, .ref a_5, .ref a_6, .ref a_7, .ref a_8, .ref a_9, .int v_10, .ref a_11, .ref a_12, .ref a_13, .int v_14, .int v_15, .ref a_16, .int v_17, .ref a_18, .ref a_19, .int x_39]) := by rw [ef_41]; exact up_self
    refine lv_iconst (v := 1) hx hb dX11_use_28 (by decide) ?_
    exact W.zret (v := 1) (ty := .boolean) hx hb hr rfl (fun t ht hW => ⟨⟨1, f_41, rfl, ⟨hG, (by decide), hfr0, hfr11_1, hfr11_8, hrr11_2, hrr11_3, hrr11_5, hrr11_6, hrr11_7, hrr11_9, hrr11_10, hrr11_16⟩, by rw [ht]; exact hP, va_K.moved hW.alike hK, pl_in hD⟩, hS.F ht⟩) hS.2.2 dX11_use_29
  · skip
    rw [← Int32.toInt_inj, ti_0] at c_24
    refine lv_iconst (v := 0) hx hb dX11_use_8 (by decide) ?_
    exact W.zret (v := 0) (ty := .boolean) hx hb hr rfl (fun t ht hW => ⟨⟨0, f, rfl, ⟨hG, (by decide), hfr0, hfr11_1, hfr11_8, hrr11_2, hrr11_3, hrr11_5, hrr11_6, hrr11_7, hrr11_9, hrr11_10, hrr11_16⟩, by rw [ht]; exact hP, va_K.moved hW.alike hK, pl_in hD⟩, hS.F ht⟩) hS.2.2 dX11_use_9
set_option maxHeartbeats 8000000 in
set_option maxRecDepth 100000 in
theorem s_X11_aged_k11 (l : Launch) (D : va_G) (cI cL cZ cR cG cH : ClassId) (Z : zT) (kd : Nat → Nat) (L : List Nat) (f : Nat → va_E) (hG : GI (okc cI cL cZ cR cG cH L kd) kd L f) (o0 : Nat) (mo0 : o0 ∈ L) (ko0 : kd o0 = 11) (p1 : Int32) : mPI l D cI cL cZ cR cG cH Z yX11_aged cX11_aged 2 (some .int) 0 0 [.ref o0, .int p1] L f (fun (r : Int32) (f9 : Nat → va_E) => f = f9 ∧ ((-1) ≤ r.toInt ∧ r.toInt ≤ 8)) := by
  obtain ⟨dC, dI⟩ := D
  refine Met.ofW (cc := cX11_aged) (maxL := 2) (ret := (some .int)) (by decide) rfl ?_
  intro p e s m args below meth c s₁ B hml hv
  obtain ⟨rfl, hP, hK, hD0, hN, hZ⟩ := hv
  have hx := B.exec
  have hb := B.bytes
  have hr := B.returns
  have hU : ∀ w ∈ wsU, w.before _ s = true := fun w h => atoms_spec (ws := wU yX11_aged cX11_aged 2 (some .int)) B.pre w (List.mem_cons_of_mem _ h)
  have hown : s.vm.findClass RX11 = some m.cls := findClass_of_methodNamed B.named
  have hlocks := B.notSynchronized
  have hD := pl_in hD0
  have hS : va_S (fun q => q ∈ L) s.heap s.heap [] := va_S.rf
  have hl := lv_entry ([.ref o0, .int p1]) (n := 2) (Nat.le_of_ble_eq_true rfl)
  rw [lg_entry_eq]
  generalize (lg_sl ([.ref o0, .int p1]) ++ List.replicate (2 - (lg_sl ([.ref o0, .int p1])).length) Slot.unset).toArray = ls at hl ⊢
  have hl : lv_has ls 2 [(0, .ref o0), (1, .int p1)] := hl
  have bp1 : ((-2147483648) ≤ p1.toInt ∧ p1.toInt ≤ 2147483647) := ⟨i32_lo _, i32_hi _⟩
  refine lv_iload_n hx hb dX11_aged_0 rfl (lv_at hl 1 rfl) ?_
  refine lv_if_lt (tgt := 12) hx hb dX11_aged_1 (by decide) (fun c_1 => ?_) (fun c_1 => ?_)
  · skip
    rw [Int32.lt_iff_toInt_lt, ti_0] at c_1
    refine lv_iconst (v := (-1)) hx hb dX11_aged_12 (by decide) ?_
    refine lv_goto (tgt := 24) hx hb dX11_aged_13 (by decide) ?_
    exact W.iret (v := (-1)) hx hb hr (fun t ht hW => ⟨⟨(-1), f, rfl, ⟨rfl, (by decide)⟩, by rw [ht]; exact hP, va_K.moved hW.alike hK, pl_in hD⟩, hS.F ht⟩) hS.2.2 dX11_aged_24
  · skip
    rw [Int32.lt_iff_toInt_lt, ti_0] at c_1
    refine lv_iload_n hx hb dX11_aged_4 rfl (lv_at hl 1 rfl) ?_
    refine lv_aload_n hx hb dX11_aged_5 rfl (lv_at hl 0 rfl) ?_
    obtain ⟨a_3, v_4, a_5, a_6, a_7, a_8, a_9, a_10, v_11, a_12, a_13, a_14, v_15, v_16, a_17, v_18, a_19, a_20, v_21, hfo_2, ⟨ma_3, ka_3⟩, bv_4, ⟨ma_5, ka_5⟩, ⟨ma_6, ka_6⟩, ⟨ma_7, ka_7⟩, ⟨ma_8, ka_8⟩, ⟨ma_9, ka_9⟩, ⟨ma_10, ka_10⟩, bv_11, ⟨ma_12, ka_12⟩, ⟨ma_13, ka_13⟩, ⟨ma_14, ka_14⟩, bv_15, ⟨ma_17, ka_17⟩, bv_18, ⟨ma_19, ka_19⟩, ⟨ma_20, ka_20⟩⟩ := un_11 (hG _ mo0) ko0
    have bv_16 : ((-2147483648) ≤ v_16.toInt ∧ v_16.toInt ≤ 2147483647) := ⟨i32_lo _, i32_hi _⟩
    have bv_21 : ((-2147483648) ≤ v_21.toInt ∧ v_21.toInt ≤ 2147483647) := ⟨i32_lo _, i32_hi _⟩
    refine tk_getP (D := (dC, dI)) (ci := 11) (v := .int v_18) (C := RX11) (T := TX11) (N := 19) hx hb hU inlX11 hown hK hP mo0 hfo_2 rfl 15 (by decide) (hU _ wd_238) (fun _ h9 => h9) rfl dX11_aged_6 ?_
    refine lv_icmp_lt (tgt := 16) hx hb dX11_aged_9 (by decide) (fun c_22 => ?_) (fun c_22 => ?_)
    · skip
      rw [Int32.lt_iff_toInt_lt] at c_22
      refine lv_aload_n hx hb dX11_aged_16 rfl (lv_at hl 0 rfl) ?_
      refine tk_getP (D := (dC, dI)) (ci := 11) (v := .ref a_17) (C := RX11) (T := TX11) (N := 19) hx hb hU inlX11 hown hK hP mo0 hfo_2 rfl 14 (by decide) (hU _ wd_41) (fun _ h9 => h9) rfl dX11_aged_17 ?_
      refine lv_iload_n hx hb dX11_aged_20 rfl (lv_at hl 1 rfl) ?_
      obtain ⟨g_24, hfo_23, hbg_24⟩ := un_507 (hG _ ma_17) ka_17
      refine tk_ildP hx hb hK hP 0 ma_17 hfo_23 rfl (vp_in_iff.mpr (by constructor <;> omega)) dX11_aged_21 ?_
      refine lv_topi (fun x_25 ex_25 => ?_)
      have bx_25 : (0 ≤ x_25.toInt ∧ x_25.toInt ≤ 8) := by rw [ex_25]; exact hbg_24 _
      refine lv_iconst (v := 1) hx hb dX11_aged_22 (by decide) ?_
      refine lv_isub hx hb dX11_aged_23 ?_
      refine lv_topi (fun x_26 ex_26 => ?_)
      have hx_26 : x_26.toInt = x_25.toInt - 1 := by rw [ex_26, sb_I (by rw [ti_1]; omega) (by rw [ti_1]; omega), ti_1]
      have bx_26 : ((-1) ≤ x_26.toInt ∧ x_26.toInt ≤ 7) := by constructor <;> omega
      exact W.iret (v := x_26) hx hb hr (fun t ht hW => ⟨⟨x_26, f, rfl, ⟨rfl, (by constructor <;> omega)⟩, by rw [ht]; exact hP, va_K.moved hW.alike hK, pl_in hD⟩, hS.F ht⟩) hS.2.2 dX11_aged_24
    · skip
      rw [Int32.lt_iff_toInt_lt] at c_22
      refine lv_iconst (v := (-1)) hx hb dX11_aged_12 (by decide) ?_
      refine lv_goto (tgt := 24) hx hb dX11_aged_13 (by decide) ?_
      exact W.iret (v := (-1)) hx hb hr (fun t ht hW => ⟨⟨(-1), f, rfl, ⟨rfl, (by decide)⟩, by rw [ht]; exact hP, va_K.moved hW.alike hK, pl_in hD⟩, hS.F ht⟩) hS.2.2 dX11_aged_24
set_option maxHeartbeats 8000000 in
set_option maxRecDepth 100000 in
theorem s_X11_putNumber_k11 (l : Launch) (D : va_G) (cI cL cZ cR cG cH : ClassId) (Z : zT) (kd : Nat → Nat) (L : List Nat) (f : Nat → va_E) (hG : GI (okc cI cL cZ cR cG cH L kd) kd L f) (o0 : Nat) (mo0 : o0 ∈ L) (ko0 : kd o0 = 11) (p1 : Int32) (hpreo0 : ∀ (w1 : Int32), fldI (f o0) 1 = some w1 → w1.toInt ≤ 596) : mPV l D cI cL cZ cR cG cH Z yX11_putNumber cX11_putNumber 3 none 0 0 [.ref o0, .int p1] L f (fun (f9 : Nat → va_E) => GI (okc cI cL cZ cR cG cH L kd) kd L f9 ∧ (∀ b, kd b ≠ 11 → kd b ≠ 533 → f9 b = f b) ∧ (∀ b, kd b = 11 → fldI (f9 b) 8 = fldI (f b) 8) ∧ (∀ b, kd b = 11 → fldR (f9 b) 2 = fldR (f b) 2) ∧ (∀ b, kd b = 11 → fldR (f9 b) 3 = fldR (f b) 3) ∧ (∀ b, kd b = 11 → fldR (f9 b) 5 = fldR (f b) 5) ∧ (∀ b, kd b = 11 → fldR (f9 b) 6 = fldR (f b) 6) ∧ (∀ b, kd b = 11 → fldR (f9 b) 7 = fldR (f b) 7) ∧ (∀ b, kd b = 11 → fldR (f9 b) 9 = fldR (f b) 9) ∧ (∀ b, kd b = 11 → fldR (f9 b) 10 = fldR (f b) 10) ∧ (∀ b, kd b = 11 → fldR (f9 b) 16 = fldR (f b) 16) ∧ (∀ (w1 z1 : Int32), fldI (f o0) 1 = some w1 → fldI (f9 o0) 1 = some z1 → z1.toInt = w1.toInt + 4)) := by
  obtain ⟨dC, dI⟩ := D
  refine Met.ofW (cc := cX11_putNumber) (maxL := 3) (ret := none) (by decide) rfl ?_
  intro p e s m args below meth c s₁ B hml hv
  obtain ⟨rfl, hP, hK, hD0, hN, hZ⟩ := hv
  have hx := B.exec
  have hb := B.bytes
  have hr := B.returns
  have hU : ∀ w ∈ wsU, w.before _ s = true := fun w h => atoms_spec (ws := wU yX11_putNumber cX11_putNumber 3 none) B.pre w (List.mem_cons_of_mem _ h)
  have hown : s.vm.findClass RX11 = some m.cls := findClass_of_methodNamed B.named
  have hlocks := B.notSynchronized
  have hD := pl_in hD0
  have hS : va_S (fun q => q ∈ L) s.heap s.heap [] := va_S.rf
  have hl := lv_entry ([.ref o0, .int p1]) (n := 3) (Nat.le_of_ble_eq_true rfl)
  rw [lg_entry_eq]
  generalize (lg_sl ([.ref o0, .int p1]) ++ List.replicate (3 - (lg_sl ([.ref o0, .int p1])).length) Slot.unset).toArray = ls at hl ⊢
  have hl : lv_has ls 3 [(0, .ref o0), (1, .int p1)] := hl
  have bp1 : ((-2147483648) ≤ p1.toInt ∧ p1.toInt ≤ 2147483647) := ⟨i32_lo _, i32_hi _⟩
  have hfr0 : ∀ b, kd b ≠ 11 → kd b ≠ 533 → f b = f b := fun _ _ _ => rfl
  have hfr11_8 : ∀ b, kd b = 11 → fldI (f b) 8 = fldI (f b) 8 := fun _ _ => rfl
  have hrr11_2 : ∀ b, kd b = 11 → fldR (f b) 2 = fldR (f b) 2 := fun _ _ => rfl
  have hrr11_3 : ∀ b, kd b = 11 → fldR (f b) 3 = fldR (f b) 3 := fun _ _ => rfl
  have hrr11_5 : ∀ b, kd b = 11 → fldR (f b) 5 = fldR (f b) 5 := fun _ _ => rfl
  have hrr11_6 : ∀ b, kd b = 11 → fldR (f b) 6 = fldR (f b) 6 := fun _ _ => rfl
  have hrr11_7 : ∀ b, kd b = 11 → fldR (f b) 7 = fldR (f b) 7 := fun _ _ => rfl
  have hrr11_9 : ∀ b, kd b = 11 → fldR (f b) 9 = fldR (f b) 9 := fun _ _ => rfl
  have hrr11_10 : ∀ b, kd b = 11 → fldR (f b) 10 = fldR (f b) 10 := fun _ _ => rfl
  have hrr11_16 : ∀ b, kd b = 11 → fldR (f b) 16 = fldR (f b) 16 := fun _ _ => rfl
  obtain ⟨a_2, v_3, a_4, a_5, a_6, a_7, a_8, a_9, v_10, a_11, a_12, a_13, v_14, v_15, a_16, v_17, a_18, a_19, v_20, hfo_1, ⟨ma_2, ka_2⟩, bv_3, ⟨ma_4, ka_4⟩, ⟨ma_5, ka_5⟩, ⟨ma_6, ka_6⟩, ⟨ma_7, ka_7⟩, ⟨ma_8, ka_8⟩, ⟨ma_9, ka_9⟩, bv_10, ⟨ma_11, ka_11⟩, ⟨ma_12, ka_12⟩, ⟨ma_13, ka_13⟩, bv_14, ⟨ma_16, ka_16⟩, bv_17, ⟨ma_18, ka_18⟩, ⟨ma_19, ka_19⟩⟩ := un_11 (hG _ mo0) ko0
  have bv_15 : ((-2147483648) ≤ v_15.toInt ∧ v_15.toInt ≤ 2147483647) := ⟨i32_lo _, i32_hi _⟩
  have bv_20 : ((-2147483648) ≤ v_20.toInt ∧ v_20.toInt ≤ 2147483647) := ⟨i32_lo _, i32_hi _⟩
  have hpo0 := hpreo0 v_3 (by rw [hfo_1]; rfl)
  refine lv_bipush (v := 24) hx hb dX11_putNumber_0 (by decide) ?_
  refine lv_istore_n (lv' := [(2, .int 24), (0, .ref o0), (1, .int p1)]) hx hb dX11_putNumber_2 rfl hl (by decide) rfl (fun ls hl => ?_)
  refine lv_iload_n hx hb dX11_putNumber_3 rfl (lv_at hl 0 rfl) ?_
  refine lv_if_lt (tgt := 39) hx hb dX11_putNumber_4 (by decide) (fun c9 => absurd c9 (by decide)) (fun _ => ?_)
  refine lv_aload_n hx hb dX11_putNumber_7 rfl (lv_at hl 1 rfl) ?_
  refine tk_getP (D := (dC, dI)) (ci := 11) (v := .ref a_2) (C := RX11) (T := TX11) (N := 19) hx hb hU inlX11 hown hK hP mo0 hfo_1 rfl 0 (by decide) (hU _ wd_13) (fun _ h9 => h9) rfl dX11_putNumber_8 ?_
  refine lv_aload_n hx hb dX11_putNumber_11 rfl (lv_at hl 1 rfl) ?_
  refine tk_getP (D := (dC, dI)) (ci := 11) (v := .int v_3) (C := RX11) (T := TX11) (N := 19) hx hb hU inlX11 hown hK hP mo0 hfo_1 rfl 1 (by decide) (hU _ wd_209) (fun _ h9 => h9) rfl dX11_putNumber_12 ?_
  refine lv_iload_n hx hb dX11_putNumber_15 rfl (lv_at hl 2 rfl) ?_
  refine lv_iload_n hx hb dX11_putNumber_16 rfl (lv_at hl 0 rfl) ?_
  refine lv_iushr hx hb dX11_putNumber_17 rfl ?_
  refine lv_topi (fun x_21 ex_21 => ?_)
  have bx_21 : ((-2147483648) ≤ x_21.toInt ∧ x_21.toInt ≤ 2147483647) := ⟨i32_lo _, i32_hi _⟩
  refine lv_sipush (v := 255) hx hb dX11_putNumber_18 (by decide) ?_
  refine lv_iand hx hb dX11_putNumber_21 ?_
  refine lv_topi (fun x_22 ex_22 => ?_)
  have bx_22 : (0 ≤ x_22.toInt ∧ x_22.toInt ≤ 255) := by rw [ex_22]; have h8 := an_C x_21 (m := 255) (by decide); rw [ti_255] at h8; exact h8
  obtain ⟨g_24, hfo_23, hbg_24⟩ := un_533 (hG _ ma_2) ka_2
  refine tk_istP hx hb hK hP hD hS 0 ma_2 hfo_23 rfl (vp_in_iff.mpr (by constructor <;> omega)) dX11_putNumber_22 (fun H locs hP hD hS => ?_)
  obtain ⟨f_26, ef_26⟩ : ∃ y : Nat → va_E, y = va_up f a_2 (.inl (cI, 600, .inl (upd g_24 (Int32.toNatClampNeg v_3) x_22))) := ⟨_, rfl⟩
  have hP : va_P (dC, dI) vwCl (va_pl L f_26) H := by rw [ef_26]; exact hP
  have hD : va_D (fun q => q ∈ L) (va_pl L f_26) := by rw [ef_26]; exact hD
  have hG : GI (okc cI cL cZ cR cG cH L kd) kd L f_26 := by rw [ef_26]; exact hG.set a_2 (mk_533 ka_2 ⟨_, rfl, okI_up hbg_24 ⟨i32_lo _, i32_hi _⟩ _⟩)
  have hfo_27 : f_26 o0 = .inr (11, [.ref a_2, .int v_3, .ref a_4, .ref a_5, .ref a_6, .ref a_7, .ref a_8, .ref a_9, .int v_10, .ref a_11, .ref a_12, .ref a_13, .int v_14, .int v_15, .ref a_16, .int v_17, .ref a_18, .ref a_19, .int v_20]) := by rw [ef_26, up_ne (kd_ne ka_2 ko0 (by decide))]; exact hfo_1
  have hfr0 : ∀ b, kd b ≠ 11 → kd b ≠ 533 → f_26 b = f b := fun b q11 q533 => (congrFun ef_26 b).trans ((up_ne (fun e9 => q533 (by rw [e9]; exact ka_2))).trans (hfr0 b q11 q533))
  have hfr11_8 : ∀ b, kd b = 11 → fldI (f_26 b) 8 = fldI (f b) 8 := fun b kb => (congrArg (fun x => fldI x 8) ((congrFun ef_26 b).trans (up_ne (kd_ne ka_2 kb (by decide))))).trans (hfr11_8 b kb)
  have hrr11_2 : ∀ b, kd b = 11 → fldR (f_26 b) 2 = fldR (f b) 2 := fun b kb => (congrArg (fun x => fldR x 2) ((congrFun ef_26 b).trans (up_ne (kd_ne ka_2 kb (by decide))))).trans (hrr11_2 b kb)
  have hrr11_3 : ∀ b, kd b = 11 → fldR (f_26 b) 3 = fldR (f b) 3 := fun b kb => (congrArg (fun x => fldR x 3) ((congrFun ef_26 b).trans (up_ne (kd_ne ka_2 kb (by decide))))).trans (hrr11_3 b kb)
  have hrr11_5 : ∀ b, kd b = 11 → fldR (f_26 b) 5 = fldR (f b) 5 := fun b kb => (congrArg (fun x => fldR x 5) ((congrFun ef_26 b).trans (up_ne (kd_ne ka_2 kb (by decide))))).trans (hrr11_5 b kb)
  have hrr11_6 : ∀ b, kd b = 11 → fldR (f_26 b) 6 = fldR (f b) 6 := fun b kb => (congrArg (fun x => fldR x 6) ((congrFun ef_26 b).trans (up_ne (kd_ne ka_2 kb (by decide))))).trans (hrr11_6 b kb)
  have hrr11_7 : ∀ b, kd b = 11 → fldR (f_26 b) 7 = fldR (f b) 7 := fun b kb => (congrArg (fun x => fldR x 7) ((congrFun ef_26 b).trans (up_ne (kd_ne ka_2 kb (by decide))))).trans (hrr11_7 b kb)
  have hrr11_9 : ∀ b, kd b = 11 → fldR (f_26 b) 9 = fldR (f b) 9 := fun b kb => (congrArg (fun x => fldR x 9) ((congrFun ef_26 b).trans (up_ne (kd_ne ka_2 kb (by decide))))).trans (hrr11_9 b kb)
  have hrr11_10 : ∀ b, kd b = 11 → fldR (f_26 b) 10 = fldR (f b) 10 := fun b kb => (congrArg (fun x => fldR x 10) ((congrFun ef_26 b).trans (up_ne (kd_ne ka_2 kb (by decide))))).trans (hrr11_10 b kb)
  have hrr11_16 : ∀ b, kd b = 11 → fldR (f_26 b) 16 = fldR (f b) 16 := fun b kb => (congrArg (fun x => fldR x 16) ((congrFun ef_26 b).trans (up_ne (kd_ne ka_2 kb (by decide))))).trans (hrr11_16 b kb)
  have hfo_28 : f_26 a_2 = .inl (cI, 600, .inl (upd g_24 (Int32.toNatClampNeg v_3) x_22)) := by rw [ef_26]; exact up_self
  refine lv_aload_n hx hb dX11_putNumber_23 rfl (lv_at hl 1 rfl) ?_
  refine lv_dup hx hb dX11_putNumber_24 rfl ?_
  refine tk_getP (D := (dC, dI)) (ci := 11) (v := .int v_3) (C := RX11) (T := TX11) (N := 19) hx hb hU inlX11 hown hK hP mo0 hfo_27 rfl 1 (by decide) (hU _ wd_209) (fun _ h9 => h9) rfl dX11_putNumber_25 ?_
  refine lv_iconst (v := 1) hx hb dX11_putNumber_28 (by decide) ?_
  refine lv_iadd hx hb dX11_putNumber_29 ?_
  refine lv_topi (fun x_29 ex_29 => ?_)
  have hx_29 : x_29.toInt = v_3.toInt + 1 := by rw [ex_29, ad_I (by rw [ti_1]; omega) (by rw [ti_1]; omega), ti_1]
  have bx_29 : (1 ≤ x_29.toInt ∧ x_29.toInt ≤ 597) := by constructor <;> omega
  refine tk_putP (D := (dC, dI)) (ci := 11) (v := .int x_29) (ty := .int) (C := RX11) (T := TX11) (N := 19) hx hb hU inlX11 tyX11 tyX11_ok nmX11 hown hK hP hD hS mo0 hfo_27 rfl 1 (by decide) (hU _ wd_209) (fun _ h9 => h9) rfl (by decide +kernel) rfl rfl (Nat.le_of_ble_eq_true rfl) dX11_putNumber_30 (fun H locs hP hD hS => ?_)
  obtain ⟨f_31, ef_31⟩ : ∃ y : Nat → va_E, y = va_up f_26 o0 (.inr (11, [.ref a_2, .int x_29, .ref a_4, .ref a_5, .ref a_6, .ref a_7, .ref a_8, .ref a_9, .int v_10, .ref a_11, .ref a_12, .ref a_13, .int v_14, .int v_15, .ref a_16, .int v_17, .ref a_18, .ref a_19, .int v_20])) := ⟨_, rfl⟩
  have hP : va_P (dC, dI) vwCl (va_pl L f_31) H := by rw [ef_31]; exact hP
  have hD : va_D (fun q => q ∈ L) (va_pl L f_31) := by rw [ef_31]; exact hD
  have hG : GI (okc cI cL cZ cR cG cH L kd) kd L f_31 := by rw [ef_31]; exact hG.set o0 (mk_11 ko0 ⟨a_2, x_29, a_4, a_5, a_6, a_7, a_8, a_9, v_10, a_11, a_12, a_13, v_14, v_15, a_16, v_17, a_18, a_19, v_20, rfl, ⟨ma_2, ka_2⟩, (by constructor <;> omega), ⟨ma_4, ka_4⟩, ⟨ma_5, ka_5⟩, ⟨ma_6, ka_6⟩, ⟨ma_7, ka_7⟩, ⟨ma_8, ka_8⟩, ⟨ma_9, ka_9⟩, (by constructor <;> omega), ⟨ma_11, ka_11⟩, ⟨ma_12, ka_12⟩, ⟨ma_13, ka_13⟩, (by constructor <;> omega), ⟨ma_16, ka_16⟩, (by constructor <;> omega), ⟨ma_18, ka_18⟩, ⟨ma_19, ka_19⟩⟩)
  have hfr0 : ∀ b, kd b ≠ 11 → kd b ≠ 533 → f_31 b = f b := fun b q11 q533 => (congrFun ef_31 b).trans ((up_ne (fun e9 => q11 (by rw [e9]; exact ko0))).trans (hfr0 b q11 q533))
  have hfr11_8 : ∀ b, kd b = 11 → fldI (f_31 b) 8 = fldI (f b) 8 := fun b kb => ((congrArg (fun x => fldI x 8) (congrFun ef_31 b)).trans (fk_up (by rw [hfo_27]; rfl) b)).trans (hfr11_8 b kb)
  have hrr11_2 : ∀ b, kd b = 11 → fldR (f_31 b) 2 = fldR (f b) 2 := fun b kb => ((congrArg (fun x => fldR x 2) (congrFun ef_31 b)).trans (fr_up (by rw [hfo_27]; rfl) b)).trans (hrr11_2 b kb)
  have hrr11_3 : ∀ b, kd b = 11 → fldR (f_31 b) 3 = fldR (f b) 3 := fun b kb => ((congrArg (fun x => fldR x 3) (congrFun ef_31 b)).trans (fr_up (by rw [hfo_27]; rfl) b)).trans (hrr11_3 b kb)
  have hrr11_5 : ∀ b, kd b = 11 → fldR (f_31 b) 5 = fldR (f b) 5 := fun b kb => ((congrArg (fun x => fldR x 5) (congrFun ef_31 b)).trans (fr_up (by rw [hfo_27]; rfl) b)).trans (hrr11_5 b kb)
  have hrr11_6 : ∀ b, kd b = 11 → fldR (f_31 b) 6 = fldR (f b) 6 := fun b kb => ((congrArg (fun x => fldR x 6) (congrFun ef_31 b)).trans (fr_up (by rw [hfo_27]; rfl) b)).trans (hrr11_6 b kb)
  have hrr11_7 : ∀ b, kd b = 11 → fldR (f_31 b) 7 = fldR (f b) 7 := fun b kb => ((congrArg (fun x => fldR x 7) (congrFun ef_31 b)).trans (fr_up (by rw [hfo_27]; rfl) b)).trans (hrr11_7 b kb)
  have hrr11_9 : ∀ b, kd b = 11 → fldR (f_31 b) 9 = fldR (f b) 9 := fun b kb => ((congrArg (fun x => fldR x 9) (congrFun ef_31 b)).trans (fr_up (by rw [hfo_27]; rfl) b)).trans (hrr11_9 b kb)
  have hrr11_10 : ∀ b, kd b = 11 → fldR (f_31 b) 10 = fldR (f b) 10 := fun b kb => ((congrArg (fun x => fldR x 10) (congrFun ef_31 b)).trans (fr_up (by rw [hfo_27]; rfl) b)).trans (hrr11_10 b kb)
  have hrr11_16 : ∀ b, kd b = 11 → fldR (f_31 b) 16 = fldR (f b) 16 := fun b kb => ((congrArg (fun x => fldR x 16) (congrFun ef_31 b)).trans (fr_up (by rw [hfo_27]; rfl) b)).trans (hrr11_16 b kb)
  have hfo_32 : f_31 o0 = .inr (11, [.ref a_2, .int x_29, .ref a_4, .ref a_5, .ref a_6, .ref a_7, .ref a_8, .ref a_9, .int v_10, .ref a_11, .ref a_12, .ref a_13, .int v_14, .int v_15, .ref a_16, .int v_17, .ref a_18, .ref a_19, .int v_20]) := by rw [ef_31]; exact up_self
  refine lv_iinc (v := 16) (lv' := [(2, .int 16), (0, .ref o0), (1, .int p1)]) hx hb dX11_putNumber_33 hl (k := 0) rfl (by decide) (by decide) rfl (fun ls hl => ?_)
  refine lv_goto (tgt := 3) hx hb dX11_putNumber_36 (by decide) ?_
  refine lv_iload_n hx hb dX11_putNumber_3 rfl (lv_at hl 0 rfl) ?_
  refine lv_if_lt (tgt := 39) hx hb dX11_putNumber_4 (by decide) (fun c9 => absurd c9 (by decide)) (fun _ => ?_)
  refine lv_aload_n hx hb dX11_putNumber_7 rfl (lv_at hl 1 rfl) ?_
  refine tk_getP (D := (dC, dI)) (ci := 11) (v := .ref a_2) (C := RX11) (T := TX11) (N := 19) hx hb hU inlX11 hown hK hP mo0 hfo_32 rfl 0 (by decide) (hU _ wd_13) (fun _ h9 => h9) rfl dX11_putNumber_8 ?_
  refine lv_aload_n hx hb dX11_putNumber_11 rfl (lv_at hl 1 rfl) ?_
  refine tk_getP (D := (dC, dI)) (ci := 11) (v := .int x_29) (C := RX11) (T := TX11) (N := 19) hx hb hU inlX11 hown hK hP mo0 hfo_32 rfl 1 (by decide) (hU _ wd_209) (fun _ h9 => h9) rfl dX11_putNumber_12 ?_
  refine lv_iload_n hx hb dX11_putNumber_15 rfl (lv_at hl 2 rfl) ?_
  refine lv_iload_n hx hb dX11_putNumber_16 rfl (lv_at hl 0 rfl) ?_
  refine lv_iushr hx hb dX11_putNumber_17 rfl ?_
  refine lv_topi (fun x_33 ex_33 => ?_)
  have bx_33 : ((-2147483648) ≤ x_33.toInt ∧ x_33.toInt ≤ 2147483647) := ⟨i32_lo _, i32_hi _⟩
  refine lv_sipush (v := 255) hx hb dX11_putNumber_18 (by decide) ?_
  refine lv_iand hx hb dX11_putNumber_21 ?_
  refine lv_topi (fun x_34 ex_34 => ?_)
  have bx_34 : (0 ≤ x_34.toInt ∧ x_34.toInt ≤ 255) := by rw [ex_34]; have h8 := an_C x_33 (m := 255) (by decide); rw [ti_255] at h8; exact h8
  obtain ⟨g_36, hfo_35, hbg_36⟩ := un_533 (hG _ ma_2) ka_2
  refine tk_istP hx hb hK hP hD hS 0 ma_2 hfo_35 rfl (vp_in_iff.mpr (by constructor <;> omega)) dX11_putNumber_22 (fun H locs hP hD hS => ?_)
  obtain ⟨f_38, ef_38⟩ : ∃ y : Nat → va_E, y = va_up f_31 a_2 (.inl (cI, 600, .inl (upd g_36 (Int32.toNatClampNeg x_29) x_34))) := ⟨_, rfl⟩
  have hP : va_P (dC, dI) vwCl (va_pl L f_38) H := by rw [ef_38]; exact hP
  have hD : va_D (fun q => q ∈ L) (va_pl L f_38) := by rw [ef_38]; exact hD
  have hG : GI (okc cI cL cZ cR cG cH L kd) kd L f_38 := by rw [ef_38]; exact hG.set a_2 (mk_533 ka_2 ⟨_, rfl, okI_up hbg_36 ⟨i32_lo _, i32_hi _⟩ _⟩)
  have hfo_39 : f_38 o0 = .inr (11, [.ref a_2, .int x_29, .ref a_4, .ref a_5, .ref a_6, .ref a_7, .ref a_8, .ref a_9, .int v_10, .ref a_11, .ref a_12, .ref a_13, .int v_14, .int v_15, .ref a_16, .int v_17, .ref a_18, .ref a_19, .int v_20]) := by rw [ef_38, up_ne (kd_ne ka_2 ko0 (by decide))]; exact hfo_32
  have hfr0 : ∀ b, kd b ≠ 11 → kd b ≠ 533 → f_38 b = f b := fun b q11 q533 => (congrFun ef_38 b).trans ((up_ne (fun e9 => q533 (by rw [e9]; exact ka_2))).trans (hfr0 b q11 q533))
  have hfr11_8 : ∀ b, kd b = 11 → fldI (f_38 b) 8 = fldI (f b) 8 := fun b kb => (congrArg (fun x => fldI x 8) ((congrFun ef_38 b).trans (up_ne (kd_ne ka_2 kb (by decide))))).trans (hfr11_8 b kb)
  have hrr11_2 : ∀ b, kd b = 11 → fldR (f_38 b) 2 = fldR (f b) 2 := fun b kb => (congrArg (fun x => fldR x 2) ((congrFun ef_38 b).trans (up_ne (kd_ne ka_2 kb (by decide))))).trans (hrr11_2 b kb)
  have hrr11_3 : ∀ b, kd b = 11 → fldR (f_38 b) 3 = fldR (f b) 3 := fun b kb => (congrArg (fun x => fldR x 3) ((congrFun ef_38 b).trans (up_ne (kd_ne ka_2 kb (by decide))))).trans (hrr11_3 b kb)
  have hrr11_5 : ∀ b, kd b = 11 → fldR (f_38 b) 5 = fldR (f b) 5 := fun b kb => (congrArg (fun x => fldR x 5) ((congrFun ef_38 b).trans (up_ne (kd_ne ka_2 kb (by decide))))).trans (hrr11_5 b kb)
  have hrr11_6 : ∀ b, kd b = 11 → fldR (f_38 b) 6 = fldR (f b) 6 := fun b kb => (congrArg (fun x => fldR x 6) ((congrFun ef_38 b).trans (up_ne (kd_ne ka_2 kb (by decide))))).trans (hrr11_6 b kb)
  have hrr11_7 : ∀ b, kd b = 11 → fldR (f_38 b) 7 = fldR (f b) 7 := fun b kb => (congrArg (fun x => fldR x 7) ((congrFun ef_38 b).trans (up_ne (kd_ne ka_2 kb (by decide))))).trans (hrr11_7 b kb)
  have hrr11_9 : ∀ b, kd b = 11 → fldR (f_38 b) 9 = fldR (f b) 9 := fun b kb => (congrArg (fun x => fldR x 9) ((congrFun ef_38 b).trans (up_ne (kd_ne ka_2 kb (by decide))))).trans (hrr11_9 b kb)
  have hrr11_10 : ∀ b, kd b = 11 → fldR (f_38 b) 10 = fldR (f b) 10 := fun b kb => (congrArg (fun x => fldR x 10) ((congrFun ef_38 b).trans (up_ne (kd_ne ka_2 kb (by decide))))).trans (hrr11_10 b kb)
  have hrr11_16 : ∀ b, kd b = 11 → fldR (f_38 b) 16 = fldR (f b) 16 := fun b kb => (congrArg (fun x => fldR x 16) ((congrFun ef_38 b).trans (up_ne (kd_ne ka_2 kb (by decide))))).trans (hrr11_16 b kb)
  have hfo_40 : f_38 a_2 = .inl (cI, 600, .inl (upd g_36 (Int32.toNatClampNeg x_29) x_34)) := by rw [ef_38]; exact up_self
  refine lv_aload_n hx hb dX11_putNumber_23 rfl (lv_at hl 1 rfl) ?_
  refine lv_dup hx hb dX11_putNumber_24 rfl ?_
  refine tk_getP (D := (dC, dI)) (ci := 11) (v := .int x_29) (C := RX11) (T := TX11) (N := 19) hx hb hU inlX11 hown hK hP mo0 hfo_39 rfl 1 (by decide) (hU _ wd_209) (fun _ h9 => h9) rfl dX11_putNumber_25 ?_
  refine lv_iconst (v := 1) hx hb dX11_putNumber_28 (by decide) ?_
  refine lv_iadd hx hb dX11_putNumber_29 ?_
  refine lv_topi (fun x_41 ex_41 => ?_)
  have hx_41 : x_41.toInt = x_29.toInt + 1 := by rw [ex_41, ad_I (by rw [ti_1]; omega) (by rw [ti_1]; omega), ti_1]
  have bx_41 : (2 ≤ x_41.toInt ∧ x_41.toInt ≤ 598) := by constructor <;> omega
  refine tk_putP (D := (dC, dI)) (ci := 11) (v := .int x_41) (ty := .int) (C := RX11) (T := TX11) (N := 19) hx hb hU inlX11 tyX11 tyX11_ok nmX11 hown hK hP hD hS mo0 hfo_39 rfl 1 (by decide) (hU _ wd_209) (fun _ h9 => h9) rfl (by decide +kernel) rfl rfl (Nat.le_of_ble_eq_true rfl) dX11_putNumber_30 (fun H locs hP hD hS => ?_)
  obtain ⟨f_43, ef_43⟩ : ∃ y : Nat → va_E, y = va_up f_38 o0 (.inr (11, [.ref a_2, .int x_41, .ref a_4, .ref a_5, .ref a_6, .ref a_7, .ref a_8, .ref a_9, .int v_10, .ref a_11, .ref a_12, .ref a_13, .int v_14, .int v_15, .ref a_16, .int v_17, .ref a_18, .ref a_19, .int v_20])) := ⟨_, rfl⟩
  have hP : va_P (dC, dI) vwCl (va_pl L f_43) H := by rw [ef_43]; exact hP
  have hD : va_D (fun q => q ∈ L) (va_pl L f_43) := by rw [ef_43]; exact hD
  have hG : GI (okc cI cL cZ cR cG cH L kd) kd L f_43 := by rw [ef_43]; exact hG.set o0 (mk_11 ko0 ⟨a_2, x_41, a_4, a_5, a_6, a_7, a_8, a_9, v_10, a_11, a_12, a_13, v_14, v_15, a_16, v_17, a_18, a_19, v_20, rfl, ⟨ma_2, ka_2⟩, (by constructor <;> omega), ⟨ma_4, ka_4⟩, ⟨ma_5, ka_5⟩, ⟨ma_6, ka_6⟩, ⟨ma_7, ka_7⟩, ⟨ma_8, ka_8⟩, ⟨ma_9, ka_9⟩, (by constructor <;> omega), ⟨ma_11, ka_11⟩, ⟨ma_12, ka_12⟩, ⟨ma_13, ka_13⟩, (by constructor <;> omega), ⟨ma_16, ka_16⟩, (by constructor <;> omega), ⟨ma_18, ka_18⟩, ⟨ma_19, ka_19⟩⟩)
  have hfr0 : ∀ b, kd b ≠ 11 → kd b ≠ 533 → f_43 b = f b := fun b q11 q533 => (congrFun ef_43 b).trans ((up_ne (fun e9 => q11 (by rw [e9]; exact ko0))).trans (hfr0 b q11 q533))
  have hfr11_8 : ∀ b, kd b = 11 → fldI (f_43 b) 8 = fldI (f b) 8 := fun b kb => ((congrArg (fun x => fldI x 8) (congrFun ef_43 b)).trans (fk_up (by rw [hfo_39]; rfl) b)).trans (hfr11_8 b kb)
  have hrr11_2 : ∀ b, kd b = 11 → fldR (f_43 b) 2 = fldR (f b) 2 := fun b kb => ((congrArg (fun x => fldR x 2) (congrFun ef_43 b)).trans (fr_up (by rw [hfo_39]; rfl) b)).trans (hrr11_2 b kb)
  have hrr11_3 : ∀ b, kd b = 11 → fldR (f_43 b) 3 = fldR (f b) 3 := fun b kb => ((congrArg (fun x => fldR x 3) (congrFun ef_43 b)).trans (fr_up (by rw [hfo_39]; rfl) b)).trans (hrr11_3 b kb)
  have hrr11_5 : ∀ b, kd b = 11 → fldR (f_43 b) 5 = fldR (f b) 5 := fun b kb => ((congrArg (fun x => fldR x 5) (congrFun ef_43 b)).trans (fr_up (by rw [hfo_39]; rfl) b)).trans (hrr11_5 b kb)
  have hrr11_6 : ∀ b, kd b = 11 → fldR (f_43 b) 6 = fldR (f b) 6 := fun b kb => ((congrArg (fun x => fldR x 6) (congrFun ef_43 b)).trans (fr_up (by rw [hfo_39]; rfl) b)).trans (hrr11_6 b kb)
  have hrr11_7 : ∀ b, kd b = 11 → fldR (f_43 b) 7 = fldR (f b) 7 := fun b kb => ((congrArg (fun x => fldR x 7) (congrFun ef_43 b)).trans (fr_up (by rw [hfo_39]; rfl) b)).trans (hrr11_7 b kb)
  have hrr11_9 : ∀ b, kd b = 11 → fldR (f_43 b) 9 = fldR (f b) 9 := fun b kb => ((congrArg (fun x => fldR x 9) (congrFun ef_43 b)).trans (fr_up (by rw [hfo_39]; rfl) b)).trans (hrr11_9 b kb)
  have hrr11_10 : ∀ b, kd b = 11 → fldR (f_43 b) 10 = fldR (f b) 10 := fun b kb => ((congrArg (fun x => fldR x 10) (congrFun ef_43 b)).trans (fr_up (by rw [hfo_39]; rfl) b)).trans (hrr11_10 b kb)
  have hrr11_16 : ∀ b, kd b = 11 → fldR (f_43 b) 16 = fldR (f b) 16 := fun b kb => ((congrArg (fun x => fldR x 16) (congrFun ef_43 b)).trans (fr_up (by rw [hfo_39]; rfl) b)).trans (hrr11_16 b kb)
  have hfo_44 : f_43 o0 = .inr (11, [.ref a_2, .int x_41, .ref a_4, .ref a_5, .ref a_6, .ref a_7, .ref a_8, .ref a_9, .int v_10, .ref a_11, .ref a_12, .ref a_13, .int v_14, .int v_15, .ref a_16, .int v_17, .ref a_18, .ref a_19, .int v_20]) := by rw [ef_43]; exact up_self
  refine lv_iinc (v := 8) (lv' := [(2, .int 8), (0, .ref o0), (1, .int p1)]) hx hb dX11_putNumber_33 hl (k := 0) rfl (by decide) (by decide) rfl (fun ls hl => ?_)
  refine lv_goto (tgt := 3) hx hb dX11_putNumber_36 (by decide) ?_
  refine lv_iload_n hx hb dX11_putNumber_3 rfl (lv_at hl 0 rfl) ?_
  refine lv_if_lt (tgt := 39) hx hb dX11_putNumber_4 (by decide) (fun c9 => absurd c9 (by decide)) (fun _ => ?_)
  refine lv_aload_n hx hb dX11_putNumber_7 rfl (lv_at hl 1 rfl) ?_
  refine tk_getP (D := (dC, dI)) (ci := 11) (v := .ref a_2) (C := RX11) (T := TX11) (N := 19) hx hb hU inlX11 hown hK hP mo0 hfo_44 rfl 0 (by decide) (hU _ wd_13) (fun _ h9 => h9) rfl dX11_putNumber_8 ?_
  refine lv_aload_n hx hb dX11_putNumber_11 rfl (lv_at hl 1 rfl) ?_
  refine tk_getP (D := (dC, dI)) (ci := 11) (v := .int x_41) (C := RX11) (T := TX11) (N := 19) hx hb hU inlX11 hown hK hP mo0 hfo_44 rfl 1 (by decide) (hU _ wd_209) (fun _ h9 => h9) rfl dX11_putNumber_12 ?_
  refine lv_iload_n hx hb dX11_putNumber_15 rfl (lv_at hl 2 rfl) ?_
  refine lv_iload_n hx hb dX11_putNumber_16 rfl (lv_at hl 0 rfl) ?_
  refine lv_iushr hx hb dX11_putNumber_17 rfl ?_
  refine lv_topi (fun x_45 ex_45 => ?_)
  have bx_45 : ((-2147483648) ≤ x_45.toInt ∧ x_45.toInt ≤ 2147483647) := ⟨i32_lo _, i32_hi _⟩
  refine lv_sipush (v := 255) hx hb dX11_putNumber_18 (by decide) ?_
  refine lv_iand hx hb dX11_putNumber_21 ?_
  refine lv_topi (fun x_46 ex_46 => ?_)
  have bx_46 : (0 ≤ x_46.toInt ∧ x_46.toInt ≤ 255) := by rw [ex_46]; have h8 := an_C x_45 (m := 255) (by decide); rw [ti_255] at h8; exact h8
  obtain ⟨g_48, hfo_47, hbg_48⟩ := un_533 (hG _ ma_2) ka_2
  refine tk_istP hx hb hK hP hD hS 0 ma_2 hfo_47 rfl (vp_in_iff.mpr (by constructor <;> omega)) dX11_putNumber_22 (fun H locs hP hD hS => ?_)
  obtain ⟨f_50, ef_50⟩ : ∃ y : Nat → va_E, y = va_up f_43 a_2 (.inl (cI, 600, .inl (upd g_48 (Int32.toNatClampNeg x_41) x_46))) := ⟨_, rfl⟩
  have hP : va_P (dC, dI) vwCl (va_pl L f_50) H := by rw [ef_50]; exact hP
  have hD : va_D (fun q => q ∈ L) (va_pl L f_50) := by rw [ef_50]; exact hD
  have hG : GI (okc cI cL cZ cR cG cH L kd) kd L f_50 := by rw [ef_50]; exact hG.set a_2 (mk_533 ka_2 ⟨_, rfl, okI_up hbg_48 ⟨i32_lo _, i32_hi _⟩ _⟩)
  have hfo_51 : f_50 o0 = .inr (11, [.ref a_2, .int x_41, .ref a_4, .ref a_5, .ref a_6, .ref a_7, .ref a_8, .ref a_9, .int v_10, .ref a_11, .ref a_12, .ref a_13, .int v_14, .int v_15, .ref a_16, .int v_17, .ref a_18, .ref a_19, .int v_20]) := by rw [ef_50, up_ne (kd_ne ka_2 ko0 (by decide))]; exact hfo_44
  have hfr0 : ∀ b, kd b ≠ 11 → kd b ≠ 533 → f_50 b = f b := fun b q11 q533 => (congrFun ef_50 b).trans ((up_ne (fun e9 => q533 (by rw [e9]; exact ka_2))).trans (hfr0 b q11 q533))
  have hfr11_8 : ∀ b, kd b = 11 → fldI (f_50 b) 8 = fldI (f b) 8 := fun b kb => (congrArg (fun x => fldI x 8) ((congrFun ef_50 b).trans (up_ne (kd_ne ka_2 kb (by decide))))).trans (hfr11_8 b kb)
  have hrr11_2 : ∀ b, kd b = 11 → fldR (f_50 b) 2 = fldR (f b) 2 := fun b kb => (congrArg (fun x => fldR x 2) ((congrFun ef_50 b).trans (up_ne (kd_ne ka_2 kb (by decide))))).trans (hrr11_2 b kb)
  have hrr11_3 : ∀ b, kd b = 11 → fldR (f_50 b) 3 = fldR (f b) 3 := fun b kb => (congrArg (fun x => fldR x 3) ((congrFun ef_50 b).trans (up_ne (kd_ne ka_2 kb (by decide))))).trans (hrr11_3 b kb)
  have hrr11_5 : ∀ b, kd b = 11 → fldR (f_50 b) 5 = fldR (f b) 5 := fun b kb => (congrArg (fun x => fldR x 5) ((congrFun ef_50 b).trans (up_ne (kd_ne ka_2 kb (by decide))))).trans (hrr11_5 b kb)
  have hrr11_6 : ∀ b, kd b = 11 → fldR (f_50 b) 6 = fldR (f b) 6 := fun b kb => (congrArg (fun x => fldR x 6) ((congrFun ef_50 b).trans (up_ne (kd_ne ka_2 kb (by decide))))).trans (hrr11_6 b kb)
  have hrr11_7 : ∀ b, kd b = 11 → fldR (f_50 b) 7 = fldR (f b) 7 := fun b kb => (congrArg (fun x => fldR x 7) ((congrFun ef_50 b).trans (up_ne (kd_ne ka_2 kb (by decide))))).trans (hrr11_7 b kb)
  have hrr11_9 : ∀ b, kd b = 11 → fldR (f_50 b) 9 = fldR (f b) 9 := fun b kb => (congrArg (fun x => fldR x 9) ((congrFun ef_50 b).trans (up_ne (kd_ne ka_2 kb (by decide))))).trans (hrr11_9 b kb)
  have hrr11_10 : ∀ b, kd b = 11 → fldR (f_50 b) 10 = fldR (f b) 10 := fun b kb => (congrArg (fun x => fldR x 10) ((congrFun ef_50 b).trans (up_ne (kd_ne ka_2 kb (by decide))))).trans (hrr11_10 b kb)
  have hrr11_16 : ∀ b, kd b = 11 → fldR (f_50 b) 16 = fldR (f b) 16 := fun b kb => (congrArg (fun x => fldR x 16) ((congrFun ef_50 b).trans (up_ne (kd_ne ka_2 kb (by decide))))).trans (hrr11_16 b kb)
  have hfo_52 : f_50 a_2 = .inl (cI, 600, .inl (upd g_48 (Int32.toNatClampNeg x_41) x_46)) := by rw [ef_50]; exact up_self
  refine lv_aload_n hx hb dX11_putNumber_23 rfl (lv_at hl 1 rfl) ?_
  refine lv_dup hx hb dX11_putNumber_24 rfl ?_
  refine tk_getP (D := (dC, dI)) (ci := 11) (v := .int x_41) (C := RX11) (T := TX11) (N := 19) hx hb hU inlX11 hown hK hP mo0 hfo_51 rfl 1 (by decide) (hU _ wd_209) (fun _ h9 => h9) rfl dX11_putNumber_25 ?_
  refine lv_iconst (v := 1) hx hb dX11_putNumber_28 (by decide) ?_
  refine lv_iadd hx hb dX11_putNumber_29 ?_
  refine lv_topi (fun x_53 ex_53 => ?_)
  have hx_53 : x_53.toInt = x_41.toInt + 1 := by rw [ex_53, ad_I (by rw [ti_1]; omega) (by rw [ti_1]; omega), ti_1]
  have bx_53 : (3 ≤ x_53.toInt ∧ x_53.toInt ≤ 599) := by constructor <;> omega
  refine tk_putP (D := (dC, dI)) (ci := 11) (v := .int x_53) (ty := .int) (C := RX11) (T := TX11) (N := 19) hx hb hU inlX11 tyX11 tyX11_ok nmX11 hown hK hP hD hS mo0 hfo_51 rfl 1 (by decide) (hU _ wd_209) (fun _ h9 => h9) rfl (by decide +kernel) rfl rfl (Nat.le_of_ble_eq_true rfl) dX11_putNumber_30 (fun H locs hP hD hS => ?_)
  obtain ⟨f_55, ef_55⟩ : ∃ y : Nat → va_E, y = va_up f_50 o0 (.inr (11, [.ref a_2, .int x_53, .ref a_4, .ref a_5, .ref a_6, .ref a_7, .ref a_8, .ref a_9, .int v_10, .ref a_11, .ref a_12, .ref a_13, .int v_14, .int v_15, .ref a_16, .int v_17, .ref a_18, .ref a_19, .int v_20])) := ⟨_, rfl⟩
  have hP : va_P (dC, dI) vwCl (va_pl L f_55) H := by rw [ef_55]; exact hP
  have hD : va_D (fun q => q ∈ L) (va_pl L f_55) := by rw [ef_55]; exact hD
  have hG : GI (okc cI cL cZ cR cG cH L kd) kd L f_55 := by rw [ef_55]; exact hG.set o0 (mk_11 ko0 ⟨a_2, x_53, a_4, a_5, a_6, a_7, a_8, a_9, v_10, a_11, a_12, a_13, v_14, v_15, a_16, v_17, a_18, a_19, v_20, rfl, ⟨ma_2, ka_2⟩, (by constructor <;> omega), ⟨ma_4, ka_4⟩, ⟨ma_5, ka_5⟩, ⟨ma_6, ka_6⟩, ⟨ma_7, ka_7⟩, ⟨ma_8, ka_8⟩, ⟨ma_9, ka_9⟩, (by constructor <;> omega), ⟨ma_11, ka_11⟩, ⟨ma_12, ka_12⟩, ⟨ma_13, ka_13⟩, (by constructor <;> omega), ⟨ma_16, ka_16⟩, (by constructor <;> omega), ⟨ma_18, ka_18⟩, ⟨ma_19, ka_19⟩⟩)
  have hfr0 : ∀ b, kd b ≠ 11 → kd b ≠ 533 → f_55 b = f b := fun b q11 q533 => (congrFun ef_55 b).trans ((up_ne (fun e9 => q11 (by rw [e9]; exact ko0))).trans (hfr0 b q11 q533))
  have hfr11_8 : ∀ b, kd b = 11 → fldI (f_55 b) 8 = fldI (f b) 8 := fun b kb => ((congrArg (fun x => fldI x 8) (congrFun ef_55 b)).trans (fk_up (by rw [hfo_51]; rfl) b)).trans (hfr11_8 b kb)
  have hrr11_2 : ∀ b, kd b = 11 → fldR (f_55 b) 2 = fldR (f b) 2 := fun b kb => ((congrArg (fun x => fldR x 2) (congrFun ef_55 b)).trans (fr_up (by rw [hfo_51]; rfl) b)).trans (hrr11_2 b kb)
  have hrr11_3 : ∀ b, kd b = 11 → fldR (f_55 b) 3 = fldR (f b) 3 := fun b kb => ((congrArg (fun x => fldR x 3) (congrFun ef_55 b)).trans (fr_up (by rw [hfo_51]; rfl) b)).trans (hrr11_3 b kb)
  have hrr11_5 : ∀ b, kd b = 11 → fldR (f_55 b) 5 = fldR (f b) 5 := fun b kb => ((congrArg (fun x => fldR x 5) (congrFun ef_55 b)).trans (fr_up (by rw [hfo_51]; rfl) b)).trans (hrr11_5 b kb)
  have hrr11_6 : ∀ b, kd b = 11 → fldR (f_55 b) 6 = fldR (f b) 6 := fun b kb => ((congrArg (fun x => fldR x 6) (congrFun ef_55 b)).trans (fr_up (by rw [hfo_51]; rfl) b)).trans (hrr11_6 b kb)
  have hrr11_7 : ∀ b, kd b = 11 → fldR (f_55 b) 7 = fldR (f b) 7 := fun b kb => ((congrArg (fun x => fldR x 7) (congrFun ef_55 b)).trans (fr_up (by rw [hfo_51]; rfl) b)).trans (hrr11_7 b kb)
  have hrr11_9 : ∀ b, kd b = 11 → fldR (f_55 b) 9 = fldR (f b) 9 := fun b kb => ((congrArg (fun x => fldR x 9) (congrFun ef_55 b)).trans (fr_up (by rw [hfo_51]; rfl) b)).trans (hrr11_9 b kb)
  have hrr11_10 : ∀ b, kd b = 11 → fldR (f_55 b) 10 = fldR (f b) 10 := fun b kb => ((congrArg (fun x => fldR x 10) (congrFun ef_55 b)).trans (fr_up (by rw [hfo_51]; rfl) b)).trans (hrr11_10 b kb)
  have hrr11_16 : ∀ b, kd b = 11 → fldR (f_55 b) 16 = fldR (f b) 16 := fun b kb => ((congrArg (fun x => fldR x 16) (congrFun ef_55 b)).trans (fr_up (by rw [hfo_51]; rfl) b)).trans (hrr11_16 b kb)
  have hfo_56 : f_55 o0 = .inr (11, [.ref a_2, .int x_53, .ref a_4, .ref a_5, .ref a_6, .ref a_7, .ref a_8, .ref a_9, .int v_10, .ref a_11, .ref a_12, .ref a_13, .int v_14, .int v_15, .ref a_16, .int v_17, .ref a_18, .ref a_19, .int v_20]) := by rw [ef_55]; exact up_self
  refine lv_iinc (v := 0) (lv' := [(2, .int 0), (0, .ref o0), (1, .int p1)]) hx hb dX11_putNumber_33 hl (k := 0) rfl (by decide) (by decide) rfl (fun ls hl => ?_)
  refine lv_goto (tgt := 3) hx hb dX11_putNumber_36 (by decide) ?_
  refine lv_iload_n hx hb dX11_putNumber_3 rfl (lv_at hl 0 rfl) ?_
  refine lv_if_lt (tgt := 39) hx hb dX11_putNumber_4 (by decide) (fun c9 => absurd c9 (by decide)) (fun _ => ?_)
  refine lv_aload_n hx hb dX11_putNumber_7 rfl (lv_at hl 1 rfl) ?_
  refine tk_getP (D := (dC, dI)) (ci := 11) (v := .ref a_2) (C := RX11) (T := TX11) (N := 19) hx hb hU inlX11 hown hK hP mo0 hfo_56 rfl 0 (by decide) (hU _ wd_13) (fun _ h9 => h9) rfl dX11_putNumber_8 ?_
  refine lv_aload_n hx hb dX11_putNumber_11 rfl (lv_at hl 1 rfl) ?_
  refine tk_getP (D := (dC, dI)) (ci := 11) (v := .int x_53) (C := RX11) (T := TX11) (N := 19) hx hb hU inlX11 hown hK hP mo0 hfo_56 rfl 1 (by decide) (hU _ wd_209) (fun _ h9 => h9) rfl dX11_putNumber_12 ?_
  refine lv_iload_n hx hb dX11_putNumber_15 rfl (lv_at hl 2 rfl) ?_
  refine lv_iload_n hx hb dX11_putNumber_16 rfl (lv_at hl 0 rfl) ?_
  refine lv_iushr hx hb dX11_putNumber_17 rfl ?_
  refine lv_topi (fun x_57 ex_57 => ?_)
  have bx_57 : ((-2147483648) ≤ x_57.toInt ∧ x_57.toInt ≤ 2147483647) := ⟨i32_lo _, i32_hi _⟩
  refine lv_sipush (v := 255) hx hb dX11_putNumber_18 (by decide) ?_
  refine lv_iand hx hb dX11_putNumber_21 ?_
  refine lv_topi (fun x_58 ex_58 => ?_)
  have bx_58 : (0 ≤ x_58.toInt ∧ x_58.toInt ≤ 255) := by rw [ex_58]; have h8 := an_C x_57 (m := 255) (by decide); rw [ti_255] at h8; exact h8
  obtain ⟨g_60, hfo_59, hbg_60⟩ := un_533 (hG _ ma_2) ka_2
  refine tk_istP hx hb hK hP hD hS 0 ma_2 hfo_59 rfl (vp_in_iff.mpr (by constructor <;> omega)) dX11_putNumber_22 (fun H locs hP hD hS => ?_)
  obtain ⟨f_62, ef_62⟩ : ∃ y : Nat → va_E, y = va_up f_55 a_2 (.inl (cI, 600, .inl (upd g_60 (Int32.toNatClampNeg x_53) x_58))) := ⟨_, rfl⟩
  have hP : va_P (dC, dI) vwCl (va_pl L f_62) H := by rw [ef_62]; exact hP
  have hD : va_D (fun q => q ∈ L) (va_pl L f_62) := by rw [ef_62]; exact hD
  have hG : GI (okc cI cL cZ cR cG cH L kd) kd L f_62 := by rw [ef_62]; exact hG.set a_2 (mk_533 ka_2 ⟨_, rfl, okI_up hbg_60 ⟨i32_lo _, i32_hi _⟩ _⟩)
  have hfo_63 : f_62 o0 = .inr (11, [.ref a_2, .int x_53, .ref a_4, .ref a_5, .ref a_6, .ref a_7, .ref a_8, .ref a_9, .int v_10, .ref a_11, .ref a_12, .ref a_13, .int v_14, .int v_15, .ref a_16, .int v_17, .ref a_18, .ref a_19, .int v_20]) := by rw [ef_62, up_ne (kd_ne ka_2 ko0 (by decide))]; exact hfo_56
  have hfr0 : ∀ b, kd b ≠ 11 → kd b ≠ 533 → f_62 b = f b := fun b q11 q533 => (congrFun ef_62 b).trans ((up_ne (fun e9 => q533 (by rw [e9]; exact ka_2))).trans (hfr0 b q11 q533))
  have hfr11_8 : ∀ b, kd b = 11 → fldI (f_62 b) 8 = fldI (f b) 8 := fun b kb => (congrArg (fun x => fldI x 8) ((congrFun ef_62 b).trans (up_ne (kd_ne ka_2 kb (by decide))))).trans (hfr11_8 b kb)
  have hrr11_2 : ∀ b, kd b = 11 → fldR (f_62 b) 2 = fldR (f b) 2 := fun b kb => (congrArg (fun x => fldR x 2) ((congrFun ef_62 b).trans (up_ne (kd_ne ka_2 kb (by decide))))).trans (hrr11_2 b kb)
  have hrr11_3 : ∀ b, kd b = 11 → fldR (f_62 b) 3 = fldR (f b) 3 := fun b kb => (congrArg (fun x => fldR x 3) ((congrFun ef_62 b).trans (up_ne (kd_ne ka_2 kb (by decide))))).trans (hrr11_3 b kb)
  have hrr11_5 : ∀ b, kd b = 11 → fldR (f_62 b) 5 = fldR (f b) 5 := fun b kb => (congrArg (fun x => fldR x 5) ((congrFun ef_62 b).trans (up_ne (kd_ne ka_2 kb (by decide))))).trans (hrr11_5 b kb)
  have hrr11_6 : ∀ b, kd b = 11 → fldR (f_62 b) 6 = fldR (f b) 6 := fun b kb => (congrArg (fun x => fldR x 6) ((congrFun ef_62 b).trans (up_ne (kd_ne ka_2 kb (by decide))))).trans (hrr11_6 b kb)
  have hrr11_7 : ∀ b, kd b = 11 → fldR (f_62 b) 7 = fldR (f b) 7 := fun b kb => (congrArg (fun x => fldR x 7) ((congrFun ef_62 b).trans (up_ne (kd_ne ka_2 kb (by decide))))).trans (hrr11_7 b kb)
  have hrr11_9 : ∀ b, kd b = 11 → fldR (f_62 b) 9 = fldR (f b) 9 := fun b kb => (congrArg (fun x => fldR x 9) ((congrFun ef_62 b).trans (up_ne (kd_ne ka_2 kb (by decide))))).trans (hrr11_9 b kb)
  have hrr11_10 : ∀ b, kd b = 11 → fldR (f_62 b) 10 = fldR (f b) 10 := fun b kb => (congrArg (fun x => fldR x 10) ((congrFun ef_62 b).trans (up_ne (kd_ne ka_2 kb (by decide))))).trans (hrr11_10 b kb)
  have hrr11_16 : ∀ b, kd b = 11 → fldR (f_62 b) 16 = fldR (f b) 16 := fun b kb => (congrArg (fun x => fldR x 16) ((congrFun ef_62 b).trans (up_ne (kd_ne ka_2 kb (by decide))))).trans (hrr11_16 b kb)
  have hfo_64 : f_62 a_2 = .inl (cI, 600, .inl (upd g_60 (Int32.toNatClampNeg x_53) x_58)) := by rw [ef_62]; exact up_self
  refine lv_aload_n hx hb dX11_putNumber_23 rfl (lv_at hl 1 rfl) ?_
  refine lv_dup hx hb dX11_putNumber_24 rfl ?_
  refine tk_getP (D := (dC, dI)) (ci := 11) (v := .int x_53) (C := RX11) (T := TX11) (N := 19) hx hb hU inlX11 hown hK hP mo0 hfo_63 rfl 1 (by decide) (hU _ wd_209) (fun _ h9 => h9) rfl dX11_putNumber_25 ?_
  refine lv_iconst (v := 1) hx hb dX11_putNumber_28 (by decide) ?_
  refine lv_iadd hx hb dX11_putNumber_29 ?_
  refine lv_topi (fun x_65 ex_65 => ?_)
  have hx_65 : x_65.toInt = x_53.toInt + 1 := by rw [ex_65, ad_I (by rw [ti_1]; omega) (by rw [ti_1]; omega), ti_1]
  have bx_65 : (4 ≤ x_65.toInt ∧ x_65.toInt ≤ 600) := by constructor <;> omega
  refine tk_putP (D := (dC, dI)) (ci := 11) (v := .int x_65) (ty := .int) (C := RX11) (T := TX11) (N := 19) hx hb hU inlX11 tyX11 tyX11_ok nmX11 hown hK hP hD hS mo0 hfo_63 rfl 1 (by decide) (hU _ wd_209) (fun _ h9 => h9) rfl (by decide +kernel) rfl rfl (Nat.le_of_ble_eq_true rfl) dX11_putNumber_30 (fun H locs hP hD hS => ?_)
  obtain ⟨f_67, ef_67⟩ : ∃ y : Nat → va_E, y = va_up f_62 o0 (.inr (11, [.ref a_2, .int x_65, .ref a_4, .ref a_5, .ref a_6, .ref a_7, .ref a_8, .ref a_9, .int v_10, .ref a_11, .ref a_12, .ref a_13, .int v_14, .int v_15, .ref a_16, .int v_17, .ref a_18, .ref a_19, .int v_20])) := ⟨_, rfl⟩
  have hP : va_P (dC, dI) vwCl (va_pl L f_67) H := by rw [ef_67]; exact hP
  have hD : va_D (fun q => q ∈ L) (va_pl L f_67) := by rw [ef_67]; exact hD
  have hG : GI (okc cI cL cZ cR cG cH L kd) kd L f_67 := by rw [ef_67]; exact hG.set o0 (mk_11 ko0 ⟨a_2, x_65, a_4, a_5, a_6, a_7, a_8, a_9, v_10, a_11, a_12, a_13, v_14, v_15, a_16, v_17, a_18, a_19, v_20, rfl, ⟨ma_2, ka_2⟩, (by constructor <;> omega), ⟨ma_4, ka_4⟩, ⟨ma_5, ka_5⟩, ⟨ma_6, ka_6⟩, ⟨ma_7, ka_7⟩, ⟨ma_8, ka_8⟩, ⟨ma_9, ka_9⟩, (by constructor <;> omega), ⟨ma_11, ka_11⟩, ⟨ma_12, ka_12⟩, ⟨ma_13, ka_13⟩, (by constructor <;> omega), ⟨ma_16, ka_16⟩, (by constructor <;> omega), ⟨ma_18, ka_18⟩, ⟨ma_19, ka_19⟩⟩)
  have hfr0 : ∀ b, kd b ≠ 11 → kd b ≠ 533 → f_67 b = f b := fun b q11 q533 => (congrFun ef_67 b).trans ((up_ne (fun e9 => q11 (by rw [e9]; exact ko0))).trans (hfr0 b q11 q533))
  have hfr11_8 : ∀ b, kd b = 11 → fldI (f_67 b) 8 = fldI (f b) 8 := fun b kb => ((congrArg (fun x => fldI x 8) (congrFun ef_67 b)).trans (fk_up (by rw [hfo_63]; rfl) b)).trans (hfr11_8 b kb)
  have hrr11_2 : ∀ b, kd b = 11 → fldR (f_67 b) 2 = fldR (f b) 2 := fun b kb => ((congrArg (fun x => fldR x 2) (congrFun ef_67 b)).trans (fr_up (by rw [hfo_63]; rfl) b)).trans (hrr11_2 b kb)
  have hrr11_3 : ∀ b, kd b = 11 → fldR (f_67 b) 3 = fldR (f b) 3 := fun b kb => ((congrArg (fun x => fldR x 3) (congrFun ef_67 b)).trans (fr_up (by rw [hfo_63]; rfl) b)).trans (hrr11_3 b kb)
  have hrr11_5 : ∀ b, kd b = 11 → fldR (f_67 b) 5 = fldR (f b) 5 := fun b kb => ((congrArg (fun x => fldR x 5) (congrFun ef_67 b)).trans (fr_up (by rw [hfo_63]; rfl) b)).trans (hrr11_5 b kb)
  have hrr11_6 : ∀ b, kd b = 11 → fldR (f_67 b) 6 = fldR (f b) 6 := fun b kb => ((congrArg (fun x => fldR x 6) (congrFun ef_67 b)).trans (fr_up (by rw [hfo_63]; rfl) b)).trans (hrr11_6 b kb)
  have hrr11_7 : ∀ b, kd b = 11 → fldR (f_67 b) 7 = fldR (f b) 7 := fun b kb => ((congrArg (fun x => fldR x 7) (congrFun ef_67 b)).trans (fr_up (by rw [hfo_63]; rfl) b)).trans (hrr11_7 b kb)
  have hrr11_9 : ∀ b, kd b = 11 → fldR (f_67 b) 9 = fldR (f b) 9 := fun b kb => ((congrArg (fun x => fldR x 9) (congrFun ef_67 b)).trans (fr_up (by rw [hfo_63]; rfl) b)).trans (hrr11_9 b kb)
  have hrr11_10 : ∀ b, kd b = 11 → fldR (f_67 b) 10 = fldR (f b) 10 := fun b kb => ((congrArg (fun x => fldR x 10) (congrFun ef_67 b)).trans (fr_up (by rw [hfo_63]; rfl) b)).trans (hrr11_10 b kb)
  have hrr11_16 : ∀ b, kd b = 11 → fldR (f_67 b) 16 = fldR (f b) 16 := fun b kb => ((congrArg (fun x => fldR x 16) (congrFun ef_67 b)).trans (fr_up (by rw [hfo_63]; rfl) b)).trans (hrr11_16 b kb)
  have hfo_68 : f_67 o0 = .inr (11, [.ref a_2, .int x_65, .ref a_4, .ref a_5, .ref a_6, .ref a_7, .ref a_8, .ref a_9, .int v_10, .ref a_11, .ref a_12, .ref a_13, .int v_14, .int v_15, .ref a_16, .int v_17, .ref a_18, .ref a_19, .int v_20]) := by rw [ef_67]; exact up_self
  refine lv_iinc (v := (-8)) (lv' := [(2, .int (-8)), (0, .ref o0), (1, .int p1)]) hx hb dX11_putNumber_33 hl (k := 0) rfl (by decide) (by decide) rfl (fun ls hl => ?_)
  refine lv_goto (tgt := 3) hx hb dX11_putNumber_36 (by decide) ?_
  refine lv_iload_n hx hb dX11_putNumber_3 rfl (lv_at hl 0 rfl) ?_
  refine lv_if_lt (tgt := 39) hx hb dX11_putNumber_4 (by decide) (fun _ => ?_) (fun c9 => absurd (by decide) c9)
  exact W.vret hx hb hr (fun t ht hW => ⟨⟨f_67, rfl, ⟨hG, hfr0, hfr11_8, hrr11_2, hrr11_3, hrr11_5, hrr11_6, hrr11_7, hrr11_9, hrr11_10, hrr11_16, (by intro w1 z1 e1 d1; rw [hfo_1] at e1; rw [hfo_68] at d1; obtain rfl := Option.some.inj e1; obtain rfl := Option.some.inj d1; omega)⟩, by rw [ht]; exact hP, va_K.moved hW.alike hK, pl_in hD⟩, hS.F ht⟩) hS.2.2 dX11_putNumber_39
