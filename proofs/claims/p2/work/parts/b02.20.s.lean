set_option maxHeartbeats 8000000 in
set_option maxRecDepth 100000 in
theorem s_X2_read_k2_a533 (l : Launch) (D : va_G) (cI cL cZ cR cG cH : ClassId) (Z : zT) (kd : Nat → Nat) (L : List Nat) (f : Nat → va_E) (hG : GI (okc cI cL cZ cR cG cH L kd) kd L f) (o0 : Nat) (mo0 : o0 ∈ L) (ko0 : kd o0 = 2) (o1 : Nat) (mo1 : o1 ∈ L) (ko1 : kd o1 = 533) (p2 : Int32) (bp2 : (0 ≤ p2.toInt ∧ p2.toInt ≤ 600)) : mPI l D cI cL cZ cR cG cH Z yX2_read cX2_read 4 (some .boolean) 8 174 [.ref o0, .ref o1, .int p2] L f (fun (r : Int32) (f9 : Nat → va_E) => GI (okc cI cL cZ cR cG cH L kd) kd L f9 ∧ (0 ≤ r.toInt ∧ r.toInt ≤ 1) ∧ (∀ b, kd b ≠ 2 → kd b ≠ 204 → kd b ≠ 205 → kd b ≠ 207 → kd b ≠ 209 → kd b ≠ 213 → kd b ≠ 533 → kd b ≠ 558 → kd b ≠ 559 → kd b ≠ 560 → kd b ≠ 561 → kd b ≠ 562 → kd b ≠ 563 → kd b ≠ 564 → kd b ≠ 565 → kd b ≠ 566 → kd b ≠ 567 → kd b ≠ 568 → kd b ≠ 569 → kd b ≠ 570 → kd b ≠ 571 → kd b ≠ 572 → f9 b = f b) ∧ (∀ b, kd b = 2 → fldR (f9 b) 0 = fldR (f b) 0) ∧ (∀ b, kd b = 2 → fldR (f9 b) 3 = fldR (f b) 3) ∧ (∀ b, kd b = 207 → fldR (f9 b) 0 = fldR (f b) 0) ∧ (∀ b, kd b = 207 → fldR (f9 b) 3 = fldR (f b) 3) ∧ (∀ b, kd b = 207 → fldR (f9 b) 11 = fldR (f b) 11) ∧ (∀ d9, fldR (f9 o0) 0 = some d9 → trel kd 207 566 568 573 204 f9 d9)) := by
  obtain ⟨dC, dI⟩ := D
  refine Met.ofW (cc := cX2_read) (maxL := 4) (ret := (some .boolean)) (by decide) rfl ?_
  intro p e s m args below meth c s₁ B hml hv
  obtain ⟨rfl, hP, hK, hD0, hN, hZ⟩ := hv
  have hx := B.exec
  have hb := B.bytes
  have hr := B.returns
  have hU : ∀ w ∈ wsU, w.before _ s = true := fun w h => atoms_spec (ws := wU yX2_read cX2_read 4 (some .boolean)) B.pre w (List.mem_cons_of_mem _ h)
  have hown : s.vm.findClass RX2 = some m.cls := findClass_of_methodNamed B.named
  have hlocks := B.notSynchronized
  have hD := pl_in hD0
  have hS : va_S (fun q => q ∈ L) s.heap s.heap [] := va_S.rf
  have hl := lv_entry ([.ref o0, .ref o1, .int p2]) (n := 4) (Nat.le_of_ble_eq_true rfl)
  rw [lg_entry_eq]
  generalize (lg_sl ([.ref o0, .ref o1, .int p2]) ++ List.replicate (4 - (lg_sl ([.ref o0, .ref o1, .int p2])).length) Slot.unset).toArray = ls at hl ⊢
  have hl : lv_has ls 4 [(0, .ref o0), (1, .ref o1), (2, .int p2)] := hl
  have hfr0 : ∀ b, kd b ≠ 2 → kd b ≠ 204 → kd b ≠ 205 → kd b ≠ 207 → kd b ≠ 209 → kd b ≠ 213 → kd b ≠ 533 → kd b ≠ 558 → kd b ≠ 559 → kd b ≠ 560 → kd b ≠ 561 → kd b ≠ 562 → kd b ≠ 563 → kd b ≠ 564 → kd b ≠ 565 → kd b ≠ 566 → kd b ≠ 567 → kd b ≠ 568 → kd b ≠ 569 → kd b ≠ 570 → kd b ≠ 571 → kd b ≠ 572 → f b = f b := fun _ _ _ _ _ _ _ _ _ _ _ _ _ _ _ _ _ _ _ _ _ _ _ => rfl
  have hrr2_0 : ∀ b, kd b = 2 → fldR (f b) 0 = fldR (f b) 0 := fun _ _ => rfl
  have hrr2_3 : ∀ b, kd b = 2 → fldR (f b) 3 = fldR (f b) 3 := fun _ _ => rfl
  have hrr207_0 : ∀ b, kd b = 207 → fldR (f b) 0 = fldR (f b) 0 := fun _ _ => rfl
  have hrr207_3 : ∀ b, kd b = 207 → fldR (f b) 3 = fldR (f b) 3 := fun _ _ => rfl
  have hrr207_11 : ∀ b, kd b = 207 → fldR (f b) 11 = fldR (f b) 11 := fun _ _ => rfl
  refine lv_aload_n hx hb dX2_read_0 rfl (lv_at hl 0 rfl) ?_
  refine lv_iload_n hx hb dX2_read_1 rfl (lv_at hl 2 rfl) ?_
  refine lv_aload_n hx hb dX2_read_2 rfl (lv_at hl 0 rfl) ?_
  obtain ⟨a_2, v_3, v_4, a_5, v_6, v_7, v_8, v_9, v_10, v_11, hfo_1, ⟨ma_2, ka_2⟩, ⟨ma_5, ka_5⟩, bv_6, bv_7, bv_8, bv_9, bv_10⟩ := un_2 (hG _ mo0) ko0
  have bv_3 : ((-2147483648) ≤ v_3.toInt ∧ v_3.toInt ≤ 2147483647) := ⟨i32_lo _, i32_hi _⟩
  have bv_4 : ((-2147483648) ≤ v_4.toInt ∧ v_4.toInt ≤ 2147483647) := ⟨i32_lo _, i32_hi _⟩
  have bv_11 : ((-2147483648) ≤ v_11.toInt ∧ v_11.toInt ≤ 2147483647) := ⟨i32_lo _, i32_hi _⟩
  refine tk_getP (D := (dC, dI)) (ci := 2) (v := .ref a_5) (C := RX2) (T := TX2) (N := 10) hx hb hU inlX2 hown hK hP mo0 hfo_1 rfl 3 (by decide) (hU _ wd_152) (fun _ h9 => h9) rfl dX2_read_3 ?_
  obtain ⟨g_13, hfo_12, hbg_13⟩ := un_533 (hG _ ma_5) ka_5
  refine tk_alenP (v := 600) hx hb hK hP 0 ma_5 hfo_12 rfl rfl dX2_read_6 ?_
  refine va_mmin hx hb (by rw [hml]; exact hl.1.symm) hown (hU _ wd_247) (hU _ wd_248) (hU _ wd_249) (hU _ wd_250) (Nat.le_of_ble_eq_true rfl) (Nat.le_of_ble_eq_true rfl) (Nat.le_of_ble_eq_true rfl) (Nat.le_of_ble_eq_true rfl) dX2_read_7 ?_
  refine lv_topi (fun x_14 ex_14 => ?_)
  have hx_14 := min_I ex_14
  rw [ti_600] at hx_14
  have bx_14 : (0 ≤ x_14.toInt ∧ x_14.toInt ≤ 600) := by constructor <;> omega
  refine tk_putP (D := (dC, dI)) (ci := 2) (v := .int x_14) (ty := .int) (C := RX2) (T := TX2) (N := 10) hx hb hU inlX2 tyX2 tyX2_ok nmX2 hown hK hP hD hS mo0 hfo_1 rfl 4 (by decide) (hU _ wd_251) (fun _ h9 => h9) rfl (by decide +kernel) rfl rfl (Nat.le_of_ble_eq_true rfl) dX2_read_10 (fun H locs hP hD hS => ?_)
  obtain ⟨f_16, ef_16⟩ : ∃ y : Nat → va_E, y = va_up f o0 (.inr (2, [.ref a_2, .int v_3, .int v_4, .ref a_5, .int x_14, .int v_7, .int v_8, .int v_9, .int v_10, .int v_11])) := ⟨_, rfl⟩
  have hP : va_P (dC, dI) vwCl (va_pl L f_16) H := by rw [ef_16]; exact hP
  have hD : va_D (fun q => q ∈ L) (va_pl L f_16) := by rw [ef_16]; exact hD
  have hG : GI (okc cI cL cZ cR cG cH L kd) kd L f_16 := by rw [ef_16]; exact hG.set o0 (mk_2 ko0 ⟨a_2, v_3, v_4, a_5, x_14, v_7, v_8, v_9, v_10, v_11, rfl, ⟨ma_2, ka_2⟩, ⟨ma_5, ka_5⟩, (by constructor <;> omega), (by constructor <;> omega), (by constructor <;> omega), (by constructor <;> omega), (by constructor <;> omega)⟩)
  have hfo_17 : f_16 a_5 = .inl (cI, 600, .inl g_13) := by rw [ef_16, up_ne (kd_ne ko0 ka_5 (by decide))]; exact hfo_12
  have hfr0 : ∀ b, kd b ≠ 2 → kd b ≠ 204 → kd b ≠ 205 → kd b ≠ 207 → kd b ≠ 209 → kd b ≠ 213 → kd b ≠ 533 → kd b ≠ 558 → kd b ≠ 559 → kd b ≠ 560 → kd b ≠ 561 → kd b ≠ 562 → kd b ≠ 563 → kd b ≠ 564 → kd b ≠ 565 → kd b ≠ 566 → kd b ≠ 567 → kd b ≠ 568 → kd b ≠ 569 → kd b ≠ 570 → kd b ≠ 571 → kd b ≠ 572 → f_16 b = f b := fun b q2 q204 q205 q207 q209 q213 q533 q558 q559 q560 q561 q562 q563 q564 q565 q566 q567 q568 q569 q570 q571 q572 => (congrFun ef_16 b).trans ((up_ne (fun e9 => q2 (by rw [e9]; exact ko0))).trans (hfr0 b q2 q204 q205 q207 q209 q213 q533 q558 q559 q560 q561 q562 q563 q564 q565 q566 q567 q568 q569 q570 q571 q572))
  have hrr2_0 : ∀ b, kd b = 2 → fldR (f_16 b) 0 = fldR (f b) 0 := fun b kb => ((congrArg (fun x => fldR x 0) (congrFun ef_16 b)).trans (fr_up (by rw [hfo_1]; rfl) b)).trans (hrr2_0 b kb)
  have hrr2_3 : ∀ b, kd b = 2 → fldR (f_16 b) 3 = fldR (f b) 3 := fun b kb => ((congrArg (fun x => fldR x 3) (congrFun ef_16 b)).trans (fr_up (by rw [hfo_1]; rfl) b)).trans (hrr2_3 b kb)
  have hrr207_0 : ∀ b, kd b = 207 → fldR (f_16 b) 0 = fldR (f b) 0 := fun b kb => (congrArg (fun x => fldR x 0) ((congrFun ef_16 b).trans (up_ne (kd_ne ko0 kb (by decide))))).trans (hrr207_0 b kb)
  have hrr207_3 : ∀ b, kd b = 207 → fldR (f_16 b) 3 = fldR (f b) 3 := fun b kb => (congrArg (fun x => fldR x 3) ((congrFun ef_16 b).trans (up_ne (kd_ne ko0 kb (by decide))))).trans (hrr207_3 b kb)
  have hrr207_11 : ∀ b, kd b = 207 → fldR (f_16 b) 11 = fldR (f b) 11 := fun b kb => (congrArg (fun x => fldR x 11) ((congrFun ef_16 b).trans (up_ne (kd_ne ko0 kb (by decide))))).trans (hrr207_11 b kb)
  have hfo_18 : f_16 o0 = .inr (2, [.ref a_2, .int v_3, .int v_4, .ref a_5, .int x_14, .int v_7, .int v_8, .int v_9, .int v_10, .int v_11]) := by rw [ef_16]; exact up_self
  refine lv_aload_n hx hb dX2_read_13 rfl (lv_at hl 1 rfl) ?_
  refine lv_iconst (v := 0) hx hb dX2_read_14 (by decide) ?_
  refine lv_aload_n hx hb dX2_read_15 rfl (lv_at hl 0 rfl) ?_
  refine tk_getP (D := (dC, dI)) (ci := 2) (v := .ref a_5) (C := RX2) (T := TX2) (N := 10) hx hb hU inlX2 hown hK hP mo0 hfo_18 rfl 3 (by decide) (hU _ wd_152) (fun _ h9 => h9) rfl dX2_read_16 ?_
  refine lv_iconst (v := 0) hx hb dX2_read_19 (by decide) ?_
  refine lv_aload_n hx hb dX2_read_20 rfl (lv_at hl 0 rfl) ?_
  refine tk_getP (D := (dC, dI)) (ci := 2) (v := .int x_14) (C := RX2) (T := TX2) (N := 10) hx hb hU inlX2 hown hK hP mo0 hfo_18 rfl 4 (by decide) (hU _ wd_251) (fun _ h9 => h9) rfl dX2_read_21 ?_
  obtain ⟨g_20, hfo_19, hbg_20⟩ := un_533 (hG _ mo1) ko1
  refine tk_copyP hx hb (by rw [hml]; exact hl.1.symm) hown (hU _ wd_252) (hU _ wd_253) (hU _ wd_254) (hU _ wd_255) hK hP hD hS 0 mo1 ma_5 hfo_19 hfo_17 rfl (by decide) (by decide) (by rw [Int32.lt_iff_toInt_lt, ti_0]; omega) (cp_ok (by rw [ti_0]; omega) (by omega) (by rw [ti_0]; omega)) (cp_ok (by rw [ti_0]; omega) (by omega) (by rw [ti_0]; omega)) (Nat.le_of_ble_eq_true rfl) (Nat.le_of_ble_eq_true rfl) dX2_read_24 (fun H locs hP hD hS => ?_)
  obtain ⟨f_22, ef_22⟩ : ∃ y : Nat → va_E, y = va_up f_16 a_5 (.inl (cI, 600, .inl (va_cpy g_20 g_13 (Int32.toNatClampNeg 0) (Int32.toNatClampNeg 0) (Int32.toNatClampNeg x_14)))) := ⟨_, rfl⟩
  have hP : va_P (dC, dI) vwCl (va_pl L f_22) H := by rw [ef_22]; exact hP
  have hD : va_D (fun q => q ∈ L) (va_pl L f_22) := by rw [ef_22]; exact hD
  have hG : GI (okc cI cL cZ cR cG cH L kd) kd L f_22 := by rw [ef_22]; exact hG.set a_5 (mk_533 ka_5 ⟨_, rfl, okI_cpy (fun j => by have := hbg_20 j; constructor <;> omega) hbg_13 _ _ _⟩)
  have hfo_23 : f_22 o0 = .inr (2, [.ref a_2, .int v_3, .int v_4, .ref a_5, .int x_14, .int v_7, .int v_8, .int v_9, .int v_10, .int v_11]) := by rw [ef_22, up_ne (kd_ne ka_5 ko0 (by decide))]; exact hfo_18
  have hfr0 : ∀ b, kd b ≠ 2 → kd b ≠ 204 → kd b ≠ 205 → kd b ≠ 207 → kd b ≠ 209 → kd b ≠ 213 → kd b ≠ 533 → kd b ≠ 558 → kd b ≠ 559 → kd b ≠ 560 → kd b ≠ 561 → kd b ≠ 562 → kd b ≠ 563 → kd b ≠ 564 → kd b ≠ 565 → kd b ≠ 566 → kd b ≠ 567 → kd b ≠ 568 → kd b ≠ 569 → kd b ≠ 570 → kd b ≠ 571 → kd b ≠ 572 → f_22 b = f b := fun b q2 q204 q205 q207 q209 q213 q533 q558 q559 q560 q561 q562 q563 q564 q565 q566 q567 q568 q569 q570 q571 q572 => (congrFun ef_22 b).trans ((up_ne (fun e9 => q533 (by rw [e9]; exact ka_5))).trans (hfr0 b q2 q204 q205 q207 q209 q213 q533 q558 q559 q560 q561 q562 q563 q564 q565 q566 q567 q568 q569 q570 q571 q572))
  have hrr2_0 : ∀ b, kd b = 2 → fldR (f_22 b) 0 = fldR (f b) 0 := fun b kb => (congrArg (fun x => fldR x 0) ((congrFun ef_22 b).trans (up_ne (kd_ne ka_5 kb (by decide))))).trans (hrr2_0 b kb)
  have hrr2_3 : ∀ b, kd b = 2 → fldR (f_22 b) 3 = fldR (f b) 3 := fun b kb => (congrArg (fun x => fldR x 3) ((congrFun ef_22 b).trans (up_ne (kd_ne ka_5 kb (by decide))))).trans (hrr2_3 b kb)
  have hrr207_0 : ∀ b, kd b = 207 → fldR (f_22 b) 0 = fldR (f b) 0 := fun b kb => (congrArg (fun x => fldR x 0) ((congrFun ef_22 b).trans (up_ne (kd_ne ka_5 kb (by decide))))).trans (hrr207_0 b kb)
  have hrr207_3 : ∀ b, kd b = 207 → fldR (f_22 b) 3 = fldR (f b) 3 := fun b kb => (congrArg (fun x => fldR x 3) ((congrFun ef_22 b).trans (up_ne (kd_ne ka_5 kb (by decide))))).trans (hrr207_3 b kb)
  have hrr207_11 : ∀ b, kd b = 207 → fldR (f_22 b) 11 = fldR (f b) 11 := fun b kb => (congrArg (fun x => fldR x 11) ((congrFun ef_22 b).trans (up_ne (kd_ne ka_5 kb (by decide))))).trans (hrr207_11 b kb)
  have hfo_24 : f_22 a_5 = .inl (cI, 600, .inl (va_cpy g_20 g_13 (Int32.toNatClampNeg 0) (Int32.toNatClampNeg 0) (Int32.toNatClampNeg x_14))) := by rw [ef_22]; exact up_self
  refine lv_aload_n hx hb dX2_read_27 rfl (lv_at hl 0 rfl) ?_
  refine lv_iconst (v := 0) hx hb dX2_read_28 (by decide) ?_
  refine tk_putP (D := (dC, dI)) (ci := 2) (v := .int 0) (ty := .int) (C := RX2) (T := TX2) (N := 10) hx hb hU inlX2 tyX2 tyX2_ok nmX2 hown hK hP hD hS mo0 hfo_23 rfl 5 (by decide) (hU _ wd_256) (fun _ h9 => h9) rfl (by decide +kernel) rfl rfl (Nat.le_of_ble_eq_true rfl) dX2_read_29 (fun H locs hP hD hS => ?_)
  obtain ⟨f_26, ef_26⟩ : ∃ y : Nat → va_E, y = va_up f_22 o0 (.inr (2, [.ref a_2, .int v_3, .int v_4, .ref a_5, .int x_14, .int 0, .int v_8, .int v_9, .int v_10, .int v_11])) := ⟨_, rfl⟩
  have hP : va_P (dC, dI) vwCl (va_pl L f_26) H := by rw [ef_26]; exact hP
  have hD : va_D (fun q => q ∈ L) (va_pl L f_26) := by rw [ef_26]; exact hD
  have hG : GI (okc cI cL cZ cR cG cH L kd) kd L f_26 := by rw [ef_26]; exact hG.set o0 (mk_2 ko0 ⟨a_2, v_3, v_4, a_5, x_14, 0, v_8, v_9, v_10, v_11, rfl, ⟨ma_2, ka_2⟩, ⟨ma_5, ka_5⟩, (by constructor <;> omega), (by decide), (by constructor <;> omega), (by constructor <;> omega), (by constructor <;> omega)⟩)
  have hfr0 : ∀ b, kd b ≠ 2 → kd b ≠ 204 → kd b ≠ 205 → kd b ≠ 207 → kd b ≠ 209 → kd b ≠ 213 → kd b ≠ 533 → kd b ≠ 558 → kd b ≠ 559 → kd b ≠ 560 → kd b ≠ 561 → kd b ≠ 562 → kd b ≠ 563 → kd b ≠ 564 → kd b ≠ 565 → kd b ≠ 566 → kd b ≠ 567 → kd b ≠ 568 → kd b ≠ 569 → kd b ≠ 570 → kd b ≠ 571 → kd b ≠ 572 → f_26 b = f b := fun b q2 q204 q205 q207 q209 q213 q533 q558 q559 q560 q561 q562 q563 q564 q565 q566 q567 q568 q569 q570 q571 q572 => (congrFun ef_26 b).trans ((up_ne (fun e9 => q2 (by rw [e9]; exact ko0))).trans (hfr0 b q2 q204 q205 q207 q209 q213 q533 q558 q559 q560 q561 q562 q563 q564 q565 q566 q567 q568 q569 q570 q571 q572))
  have hrr2_0 : ∀ b, kd b = 2 → fldR (f_26 b) 0 = fldR (f b) 0 := fun b kb => ((congrArg (fun x => fldR x 0) (congrFun ef_26 b)).trans (fr_up (by rw [hfo_23]; rfl) b)).trans (hrr2_0 b kb)
  have hrr2_3 : ∀ b, kd b = 2 → fldR (f_26 b) 3 = fldR (f b) 3 := fun b kb => ((congrArg (fun x => fldR x 3) (congrFun ef_26 b)).trans (fr_up (by rw [hfo_23]; rfl) b)).trans (hrr2_3 b kb)
  have hrr207_0 : ∀ b, kd b = 207 → fldR (f_26 b) 0 = fldR (f b) 0 := fun b kb => (congrArg (fun x => fldR x 0) ((congrFun ef_26 b).trans (up_ne (kd_ne ko0 kb (by decide))))).trans (hrr207_0 b kb)
  have hrr207_3 : ∀ b, kd b = 207 → fldR (f_26 b) 3 = fldR (f b) 3 := fun b kb => (congrArg (fun x => fldR x 3) ((congrFun ef_26 b).trans (up_ne (kd_ne ko0 kb (by decide))))).trans (hrr207_3 b kb)
  have hrr207_11 : ∀ b, kd b = 207 → fldR (f_26 b) 11 = fldR (f b) 11 := fun b kb => (congrArg (fun x => fldR x 11) ((congrFun ef_26 b).trans (up_ne (kd_ne ko0 kb (by decide))))).trans (hrr207_11 b kb)
  have hfo_27 : f_26 o0 = .inr (2, [.ref a_2, .int v_3, .int v_4, .ref a_5, .int x_14, .int 0, .int v_8, .int v_9, .int v_10, .int v_11]) := by rw [ef_26]; exact up_self
  refine lv_aload_n hx hb dX2_read_32 rfl (lv_at hl 0 rfl) ?_
  refine lv_iconst (v := 0) hx hb dX2_read_33 (by decide) ?_
  refine tk_putP (D := (dC, dI)) (ci := 2) (v := .int 0) (ty := .int) (C := RX2) (T := TX2) (N := 10) hx hb hU inlX2 tyX2 tyX2_ok nmX2 hown hK hP hD hS mo0 hfo_27 rfl 1 (by decide) (hU _ wd_257) (fun _ h9 => h9) rfl (by decide +kernel) rfl rfl (Nat.le_of_ble_eq_true rfl) dX2_read_34 (fun H locs hP hD hS => ?_)
  obtain ⟨f_29, ef_29⟩ : ∃ y : Nat → va_E, y = va_up f_26 o0 (.inr (2, [.ref a_2, .int 0, .int v_4, .ref a_5, .int x_14, .int 0, .int v_8, .int v_9, .int v_10, .int v_11])) := ⟨_, rfl⟩
  have hP : va_P (dC, dI) vwCl (va_pl L f_29) H := by rw [ef_29]; exact hP
  have hD : va_D (fun q => q ∈ L) (va_pl L f_29) := by rw [ef_29]; exact hD
  have hG : GI (okc cI cL cZ cR cG cH L kd) kd L f_29 := by rw [ef_29]; exact hG.set o0 (mk_2 ko0 ⟨a_2, 0, v_4, a_5, x_14, 0, v_8, v_9, v_10, v_11, rfl, ⟨ma_2, ka_2⟩, ⟨ma_5, ka_5⟩, (by constructor <;> omega), (by decide), (by constructor <;> omega), (by constructor <;> omega), (by constructor <;> omega)⟩)
  have hfr0 : ∀ b, kd b ≠ 2 → kd b ≠ 204 → kd b ≠ 205 → kd b ≠ 207 → kd b ≠ 209 → kd b ≠ 213 → kd b ≠ 533 → kd b ≠ 558 → kd b ≠ 559 → kd b ≠ 560 → kd b ≠ 561 → kd b ≠ 562 → kd b ≠ 563 → kd b ≠ 564 → kd b ≠ 565 → kd b ≠ 566 → kd b ≠ 567 → kd b ≠ 568 → kd b ≠ 569 → kd b ≠ 570 → kd b ≠ 571 → kd b ≠ 572 → f_29 b = f b := fun b q2 q204 q205 q207 q209 q213 q533 q558 q559 q560 q561 q562 q563 q564 q565 q566 q567 q568 q569 q570 q571 q572 => (congrFun ef_29 b).trans ((up_ne (fun e9 => q2 (by rw [e9]; exact ko0))).trans (hfr0 b q2 q204 q205 q207 q209 q213 q533 q558 q559 q560 q561 q562 q563 q564 q565 q566 q567 q568 q569 q570 q571 q572))
  have hrr2_0 : ∀ b, kd b = 2 → fldR (f_29 b) 0 = fldR (f b) 0 := fun b kb => ((congrArg (fun x => fldR x 0) (congrFun ef_29 b)).trans (fr_up (by rw [hfo_27]; rfl) b)).trans (hrr2_0 b kb)
  have hrr2_3 : ∀ b, kd b = 2 → fldR (f_29 b) 3 = fldR (f b) 3 := fun b kb => ((congrArg (fun x => fldR x 3) (congrFun ef_29 b)).trans (fr_up (by rw [hfo_27]; rfl) b)).trans (hrr2_3 b kb)
  have hrr207_0 : ∀ b, kd b = 207 → fldR (f_29 b) 0 = fldR (f b) 0 := fun b kb => (congrArg (fun x => fldR x 0) ((congrFun ef_29 b).trans (up_ne (kd_ne ko0 kb (by decide))))).trans (hrr207_0 b kb)
  have hrr207_3 : ∀ b, kd b = 207 → fldR (f_29 b) 3 = fldR (f b) 3 := fun b kb => (congrArg (fun x => fldR x 3) ((congrFun ef_29 b).trans (up_ne (kd_ne ko0 kb (by decide))))).trans (hrr207_3 b kb)
  have hrr207_11 : ∀ b, kd b = 207 → fldR (f_29 b) 11 = fldR (f b) 11 := fun b kb => (congrArg (fun x => fldR x 11) ((congrFun ef_29 b).trans (up_ne (kd_ne ko0 kb (by decide))))).trans (hrr207_11 b kb)
  have hfo_30 : f_29 o0 = .inr (2, [.ref a_2, .int 0, .int v_4, .ref a_5, .int x_14, .int 0, .int v_8, .int v_9, .int v_10, .int v_11]) := by rw [ef_29]; exact up_self
  refine lv_aload_n hx hb dX2_read_37 rfl (lv_at hl 0 rfl) ?_
  refine lv_iconst (v := (-1)) hx hb dX2_read_38 (by decide) ?_
  refine tk_putP (D := (dC, dI)) (ci := 2) (v := .int (-1)) (ty := .int) (C := RX2) (T := TX2) (N := 10) hx hb hU inlX2 tyX2 tyX2_ok nmX2 hown hK hP hD hS mo0 hfo_30 rfl 2 (by decide) (hU _ wd_151) (fun _ h9 => h9) rfl (by decide +kernel) rfl rfl (Nat.le_of_ble_eq_true rfl) dX2_read_39 (fun H locs hP hD hS => ?_)
  obtain ⟨f_32, ef_32⟩ : ∃ y : Nat → va_E, y = va_up f_29 o0 (.inr (2, [.ref a_2, .int 0, .int (-1), .ref a_5, .int x_14, .int 0, .int v_8, .int v_9, .int v_10, .int v_11])) := ⟨_, rfl⟩
  have hP : va_P (dC, dI) vwCl (va_pl L f_32) H := by rw [ef_32]; exact hP
  have hD : va_D (fun q => q ∈ L) (va_pl L f_32) := by rw [ef_32]; exact hD
  have hG : GI (okc cI cL cZ cR cG cH L kd) kd L f_32 := by rw [ef_32]; exact hG.set o0 (mk_2 ko0 ⟨a_2, 0, (-1), a_5, x_14, 0, v_8, v_9, v_10, v_11, rfl, ⟨ma_2, ka_2⟩, ⟨ma_5, ka_5⟩, (by constructor <;> omega), (by decide), (by constructor <;> omega), (by constructor <;> omega), (by constructor <;> omega)⟩)
  have hfr0 : ∀ b, kd b ≠ 2 → kd b ≠ 204 → kd b ≠ 205 → kd b ≠ 207 → kd b ≠ 209 → kd b ≠ 213 → kd b ≠ 533 → kd b ≠ 558 → kd b ≠ 559 → kd b ≠ 560 → kd b ≠ 561 → kd b ≠ 562 → kd b ≠ 563 → kd b ≠ 564 → kd b ≠ 565 → kd b ≠ 566 → kd b ≠ 567 → kd b ≠ 568 → kd b ≠ 569 → kd b ≠ 570 → kd b ≠ 571 → kd b ≠ 572 → f_32 b = f b := fun b q2 q204 q205 q207 q209 q213 q533 q558 q559 q560 q561 q562 q563 q564 q565 q566 q567 q568 q569 q570 q571 q572 => (congrFun ef_32 b).trans ((up_ne (fun e9 => q2 (by rw [e9]; exact ko0))).trans (hfr0 b q2 q204 q205 q207 q209 q213 q533 q558 q559 q560 q561 q562 q563 q564 q565 q566 q567 q568 q569 q570 q571 q572))
  have hrr2_0 : ∀ b, kd b = 2 → fldR (f_32 b) 0 = fldR (f b) 0 := fun b kb => ((congrArg (fun x => fldR x 0) (congrFun ef_32 b)).trans (fr_up (by rw [hfo_30]; rfl) b)).trans (hrr2_0 b kb)
  have hrr2_3 : ∀ b, kd b = 2 → fldR (f_32 b) 3 = fldR (f b) 3 := fun b kb => ((congrArg (fun x => fldR x 3) (congrFun ef_32 b)).trans (fr_up (by rw [hfo_30]; rfl) b)).trans (hrr2_3 b kb)
  have hrr207_0 : ∀ b, kd b = 207 → fldR (f_32 b) 0 = fldR (f b) 0 := fun b kb => (congrArg (fun x => fldR x 0) ((congrFun ef_32 b).trans (up_ne (kd_ne ko0 kb (by decide))))).trans (hrr207_0 b kb)
  have hrr207_3 : ∀ b, kd b = 207 → fldR (f_32 b) 3 = fldR (f b) 3 := fun b kb => (congrArg (fun x => fldR x 3) ((congrFun ef_32 b).trans (up_ne (kd_ne ko0 kb (by decide))))).trans (hrr207_3 b kb)
  have hrr207_11 : ∀ b, kd b = 207 → fldR (f_32 b) 11 = fldR (f b) 11 := fun b kb => (congrArg (fun x => fldR x 11) ((congrFun ef_32 b).trans (up_ne (kd_ne ko0 kb (by decide))))).trans (hrr207_11 b kb)
  have hfo_33 : f_32 o0 = .inr (2, [.ref a_2, .int 0, .int (-1), .ref a_5, .int x_14, .int 0, .int v_8, .int v_9, .int v_10, .int v_11]) := by rw [ef_32]; exact up_self
  refine lv_aload_n hx hb dX2_read_42 rfl (lv_at hl 0 rfl) ?_
  refine tk_getP (D := (dC, dI)) (ci := 2) (v := .ref a_2) (C := RX2) (T := TX2) (N := 10) hx hb hU inlX2 hown hK hP mo0 hfo_33 rfl 0 (by decide) (hU _ wd_150) (fun _ h9 => h9) rfl dX2_read_43 ?_
  obtain ⟨a_35, v_36, a_37, a_38, a_39, a_40, v_41, a_42, a_43, a_44, a_45, a_46, v_47, a_48, a_49, a_50, hfo_34, ⟨ma_35, ka_35⟩, bv_36, ⟨ma_37, ka_37⟩, ⟨ma_38, ka_38⟩, ⟨ma_39, ka_39⟩, ⟨ma_40, ka_40⟩, bv_41, ⟨ma_42, ka_42⟩, ⟨ma_43, ka_43⟩, ⟨ma_44, ka_44⟩, ⟨ma_45, ka_45⟩, ⟨ma_46, ka_46⟩, bv_47, ⟨ma_48, ka_48⟩, ⟨ma_49, ka_49⟩, ⟨ma_50, ka_50⟩⟩ := un_207 (hG _ ma_2) ka_2
  refine tk_VvP (As := []) (rest := []) (n := 0) hx hb hml hown hU hN hZ (s_X7_clear_k207_t l (dC, dI) cI cL cZ cR cG cH Z kd L f_32 hG a_2 ma_2 ka_2) wd_258 wd_259 wd_260 wd_28 wd_261 (by decide +kernel) ⟨Nat.le_of_ble_eq_true rfl, Nat.le_of_ble_eq_true rfl⟩ hK hP hD hS ma_2 hfo_34 7 rfl rfl rfl hl.1 rfl (Nat.le_of_ble_eq_true rfl) dX2_read_46 ⟨Nat.le_of_ble_eq_true rfl, Nat.le_of_ble_eq_true rfl⟩ (fun f_52 H locs hw hP hD hS => ?_)
  obtain ⟨hG, hkc_53, hrc_54, hrc_55, hrc_56, hTc_57⟩ := hw
  have hfo_59 : f_52 o0 = .inr (2, [.ref a_2, .int 0, .int (-1), .ref a_5, .int x_14, .int 0, .int v_8, .int v_9, .int v_10, .int v_11]) := by rw [hkc_53 o0 (by rw [ko0]; decide) (by rw [ko0]; decide) (by rw [ko0]; decide) (by rw [ko0]; decide) (by rw [ko0]; decide) (by rw [ko0]; decide) (by rw [ko0]; decide) (by rw [ko0]; decide) (by rw [ko0]; decide)]; exact hfo_33
  have hfr0 : ∀ b, kd b ≠ 2 → kd b ≠ 204 → kd b ≠ 205 → kd b ≠ 207 → kd b ≠ 209 → kd b ≠ 213 → kd b ≠ 533 → kd b ≠ 558 → kd b ≠ 559 → kd b ≠ 560 → kd b ≠ 561 → kd b ≠ 562 → kd b ≠ 563 → kd b ≠ 564 → kd b ≠ 565 → kd b ≠ 566 → kd b ≠ 567 → kd b ≠ 568 → kd b ≠ 569 → kd b ≠ 570 → kd b ≠ 571 → kd b ≠ 572 → f_52 b = f b := fun b q2 q204 q205 q207 q209 q213 q533 q558 q559 q560 q561 q562 q563 q564 q565 q566 q567 q568 q569 q570 q571 q572 => (hkc_53 b q207 q209 q213 q566 q567 q568 q570 q571 q572).trans (hfr0 b q2 q204 q205 q207 q209 q213 q533 q558 q559 q560 q561 q562 q563 q564 q565 q566 q567 q568 q569 q570 q571 q572)
  have hrr2_0 : ∀ b, kd b = 2 → fldR (f_52 b) 0 = fldR (f b) 0 := fun b kb => (congrArg (fun x => fldR x 0) (hkc_53 b (by rw [kb]; decide) (by rw [kb]; decide) (by rw [kb]; decide) (by rw [kb]; decide) (by rw [kb]; decide) (by rw [kb]; decide) (by rw [kb]; decide) (by rw [kb]; decide) (by rw [kb]; decide))).trans (hrr2_0 b kb)
  have hrr2_3 : ∀ b, kd b = 2 → fldR (f_52 b) 3 = fldR (f b) 3 := fun b kb => (congrArg (fun x => fldR x 3) (hkc_53 b (by rw [kb]; decide) (by rw [kb]; decide) (by rw [kb]; decide) (by rw [kb]; decide) (by rw [kb]; decide) (by rw [kb]; decide) (by rw [kb]; decide) (by rw [kb]; decide) (by rw [kb]; decide))).trans (hrr2_3 b kb)
  have hrr207_0 : ∀ b, kd b = 207 → fldR (f_52 b) 0 = fldR (f b) 0 := fun b kb => (hrc_54 b kb).trans (hrr207_0 b kb)
  have hrr207_3 : ∀ b, kd b = 207 → fldR (f_52 b) 3 = fldR (f b) 3 := fun b kb => (hrc_55 b kb).trans (hrr207_3 b kb)
  have hrr207_11 : ∀ b, kd b = 207 → fldR (f_52 b) 11 = fldR (f b) 11 := fun b kb => (hrc_56 b kb).trans (hrr207_11 b kb)
  obtain ⟨a_61, v_62, a_63, a_64, a_65, a_66, v_67, a_68, a_69, a_70, a_71, a_72, v_73, a_74, a_75, a_76, hfo_60, ⟨ma_61, ka_61⟩, bv_62, ⟨ma_63, ka_63⟩, ⟨ma_64, ka_64⟩, ⟨ma_65, ka_65⟩, ⟨ma_66, ka_66⟩, bv_67, ⟨ma_68, ka_68⟩, ⟨ma_69, ka_69⟩, ⟨ma_70, ka_70⟩, ⟨ma_71, ka_71⟩, ⟨ma_72, ka_72⟩, bv_73, ⟨ma_74, ka_74⟩, ⟨ma_75, ka_75⟩, ⟨ma_76, ka_76⟩⟩ := un_207 (hG _ ma_2) ka_2
  obtain rfl : a_35 = a_61 := by have hk9 := hrc_54 a_2 ka_2; rw [hfo_60, hfo_34] at hk9; exact (Option.some.inj hk9).symm
  obtain rfl : a_38 = a_64 := by have hk9 := hrc_55 a_2 ka_2; rw [hfo_60, hfo_34] at hk9; exact (Option.some.inj hk9).symm
  obtain rfl : a_46 = a_72 := by have hk9 := hrc_56 a_2 ka_2; rw [hfo_60, hfo_34] at hk9; exact (Option.some.inj hk9).symm
  refine lv_iconst (v := 0) hx hb dX2_read_49 (by decide) ?_
  refine lv_istore_n (lv' := [(3, .int 0), (0, .ref o0), (1, .ref o1), (2, .int p2)]) hx hb dX2_read_50 rfl hl (by decide) rfl (fun ls hl => ?_)
  have hloop_91 : ∀ (n : Nat), ∀ (y_92 : Int32), (0 ≤ y_92.toInt ∧ y_92.toInt ≤ 601) → ∀ (f_94 : Nat → va_E), GI (okc cI cL cZ cR cG cH L kd) kd L f_94 → ∀ (H : Heap) (locs : List Loc), va_P (dC, dI) vwCl (va_pl L f_94) H → va_S (fun q => q ∈ L) s.heap H locs → va_D (fun q => q ∈ L) (va_pl L f_94) → (∀ b, kd b ≠ 2 → kd b ≠ 204 → kd b ≠ 205 → kd b ≠ 207 → kd b ≠ 209 → kd b ≠ 213 → kd b ≠ 533 → kd b ≠ 558 → kd b ≠ 559 → kd b ≠ 560 → kd b ≠ 561 → kd b ≠ 562 → kd b ≠ 563 → kd b ≠ 564 → kd b ≠ 565 → kd b ≠ 566 → kd b ≠ 567 → kd b ≠ 568 → kd b ≠ 569 → kd b ≠ 570 → kd b ≠ 571 → kd b ≠ 572 → f_94 b = f b) → (∀ b, kd b = 2 → fldR (f_94 b) 0 = fldR (f b) 0) → (∀ b, kd b = 2 → fldR (f_94 b) 3 = fldR (f b) 3) → (∀ b, kd b = 207 → fldR (f_94 b) 0 = fldR (f b) 0) → (∀ b, kd b = 207 → fldR (f_94 b) 3 = fldR (f b) 3) → (∀ b, kd b = 207 → fldR (f_94 b) 11 = fldR (f b) 11) → trel kd 207 566 568 573 204 f_94 a_2 → 601 - y_92.toInt < (n : Int) → ∀ (ls : Array Slot), lv_has ls 4 [(3, .int y_92), (0, .ref o0), (1, .ref o1), (2, .int p2)] → W p l e (headSpec (wU yX2_read cX2_read 4 (some .boolean)) { frames := 8, cells := 0, slots := 0, locals := 174 }).room s m [.ref o0, .ref o1, .int p2].toArray below meth c H locs 0 0 (MQ below (va_Qi (fun (r : Int32) (f9 : Nat → va_E) => GI (okc cI cL cZ cR cG cH L kd) kd L f9 ∧ (0 ≤ r.toInt ∧ r.toInt ≤ 1) ∧ (∀ b, kd b ≠ 2 → kd b ≠ 204 → kd b ≠ 205 → kd b ≠ 207 → kd b ≠ 209 → kd b ≠ 213 → kd b ≠ 533 → kd b ≠ 558 → kd b ≠ 559 → kd b ≠ 560 → kd b ≠ 561 → kd b ≠ 562 → kd b ≠ 563 → kd b ≠ 564 → kd b ≠ 565 → kd b ≠ 566 → kd b ≠ 567 → kd b ≠ 568 → kd b ≠ 569 → kd b ≠ 570 → kd b ≠ 571 → kd b ≠ 572 → f9 b = f b) ∧ (∀ b, kd b = 2 → fldR (f9 b) 0 = fldR (f b) 0) ∧ (∀ b, kd b = 2 → fldR (f9 b) 3 = fldR (f b) 3) ∧ (∀ b, kd b = 207 → fldR (f9 b) 0 = fldR (f b) 0) ∧ (∀ b, kd b = 207 → fldR (f9 b) 3 = fldR (f b) 3) ∧ (∀ b, kd b = 207 → fldR (f9 b) 11 = fldR (f b) 11) ∧ (∀ d9, fldR (f9 o0) 0 = some d9 → trel kd 207 566 568 573 204 f9 d9)) (qP (dC, dI) cI cL cZ cR cG cH L) (fun q => q ∈ L)) [.ref o0, .ref o1, .int p2].toArray s 0 0 (fun q => q ∈ L)) (F0 m 51 ls []) := by
    intro n
    induction n with
    | zero => intro y_92 by_92 f_94 hG H locs hP hS hD hfr0 hrr2_0 hrr2_3 hrr207_0 hrr207_3 hrr207_11 hTc_57 hmuhloop_91 ls hl; exfalso; omega
    | succ n ih_hloop_91 =>
      intro y_92 by_92 f_94 hG H locs hP hS hD hfr0 hrr2_0 hrr2_3 hrr207_0 hrr207_3 hrr207_11 hTc_57 hmuhloop_91 ls hl
      refine lv_iload_n hx hb dX2_read_51 rfl (lv_at hl 0 rfl) ?_
      refine lv_aload_n hx hb dX2_read_52 rfl (lv_at hl 1 rfl) ?_
      obtain ⟨a_96, v_97, v_98, a_99, v_100, v_101, v_102, v_103, v_104, v_105, hfo_95, ⟨ma_96, ka_96⟩, ⟨ma_99, ka_99⟩, bv_100, bv_101, bv_102, bv_103, bv_104⟩ := un_2 (hG _ mo0) ko0
      have bv_97 : ((-2147483648) ≤ v_97.toInt ∧ v_97.toInt ≤ 2147483647) := ⟨i32_lo _, i32_hi _⟩
      have bv_98 : ((-2147483648) ≤ v_98.toInt ∧ v_98.toInt ≤ 2147483647) := ⟨i32_lo _, i32_hi _⟩
      have bv_105 : ((-2147483648) ≤ v_105.toInt ∧ v_105.toInt ≤ 2147483647) := ⟨i32_lo _, i32_hi _⟩
      obtain rfl : a_2 = a_96 := by have hk9 := hrr2_0 o0 ko0; rw [hfo_95, hfo_1] at hk9; exact (Option.some.inj hk9).symm
      obtain rfl : a_5 = a_99 := by have hk9 := hrr2_3 o0 ko0; rw [hfo_95, hfo_1] at hk9; exact (Option.some.inj hk9).symm
      refine tk_getP (D := (dC, dI)) (ci := 2) (v := .int v_100) (C := RX2) (T := TX2) (N := 10) hx hb hU inlX2 hown hK hP mo0 hfo_95 rfl 4 (by decide) (hU _ wd_251) (fun _ h9 => h9) rfl dX2_read_53 ?_
      refine lv_icmp_gt (tgt := 82) hx hb dX2_read_56 (by decide) (fun c_106 => ?_) (fun c_106 => ?_)
      · skip
        rw [Int32.lt_iff_toInt_lt] at c_106
        refine lv_aload_n hx hb dX2_read_82 rfl (lv_at hl 1 rfl) ?_
        refine tk_getP (D := (dC, dI)) (ci := 2) (v := .ref a_2) (C := RX2) (T := TX2) (N := 10) hx hb hU inlX2 hown hK hP mo0 hfo_95 rfl 0 (by decide) (hU _ wd_150) (fun _ h9 => h9) rfl dX2_read_83 ?_
        obtain ⟨a_108, v_109, a_110, a_111, a_112, a_113, v_114, a_115, a_116, a_117, a_118, a_119, v_120, a_121, a_122, a_123, hfo_107, ⟨ma_108, ka_108⟩, bv_109, ⟨ma_110, ka_110⟩, ⟨ma_111, ka_111⟩, ⟨ma_112, ka_112⟩, ⟨ma_113, ka_113⟩, bv_114, ⟨ma_115, ka_115⟩, ⟨ma_116, ka_116⟩, ⟨ma_117, ka_117⟩, ⟨ma_118, ka_118⟩, ⟨ma_119, ka_119⟩, bv_120, ⟨ma_121, ka_121⟩, ⟨ma_122, ka_122⟩, ⟨ma_123, ka_123⟩⟩ := un_207 (hG _ ma_2) ka_2
        refine tk_VvP (As := []) (rest := []) (n := 0) hx hb hml hown hU hN hZ (s_X7_compile_k207 l (dC, dI) cI cL cZ cR cG cH Z kd L f_94 hG a_2 ma_2 ka_2) wd_481 wd_482 wd_483 wd_28 wd_484 (by decide +kernel) ⟨Nat.le_of_ble_eq_true rfl, Nat.le_of_ble_eq_true rfl⟩ hK hP hD hS ma_2 hfo_107 7 rfl rfl rfl hl.1 rfl (Nat.le_of_ble_eq_true rfl) dX2_read_86 ⟨Nat.le_of_ble_eq_true rfl, Nat.le_of_ble_eq_true rfl⟩ (fun f_125 H locs hw hP hD hS => ?_)
        obtain ⟨hG, hkc_126, hfc_127, hfc_128⟩ := hw
        have hfo_130 : f_125 o0 = .inr (2, [.ref a_2, .int v_97, .int v_98, .ref a_5, .int v_100, .int v_101, .int v_102, .int v_103, .int v_104, .int v_105]) := by rw [hkc_126 o0 (by rw [ko0]; decide) (by rw [ko0]; decide) (by rw [ko0]; decide) (by rw [ko0]; decide)]; exact hfo_95
        have hfo_131 : f_125 a_2 = .inr (7, [.ref a_108, .int v_109, .ref a_110, .ref a_111, .ref a_112, .ref a_113, .int v_114, .ref a_115, .ref a_116, .ref a_117, .ref a_118, .ref a_119, .int v_120, .ref a_121, .ref a_122, .ref a_123]) := by rw [hkc_126 a_2 (by rw [ka_2]; decide) (by rw [ka_2]; decide) (by rw [ka_2]; decide) (by rw [ka_2]; decide)]; exact hfo_107
        have hfr0 : ∀ b, kd b ≠ 2 → kd b ≠ 204 → kd b ≠ 205 → kd b ≠ 207 → kd b ≠ 209 → kd b ≠ 213 → kd b ≠ 533 → kd b ≠ 558 → kd b ≠ 559 → kd b ≠ 560 → kd b ≠ 561 → kd b ≠ 562 → kd b ≠ 563 → kd b ≠ 564 → kd b ≠ 565 → kd b ≠ 566 → kd b ≠ 567 → kd b ≠ 568 → kd b ≠ 569 → kd b ≠ 570 → kd b ≠ 571 → kd b ≠ 572 → f_125 b = f b := fun b q2 q204 q205 q207 q209 q213 q533 q558 q559 q560 q561 q562 q563 q564 q565 q566 q567 q568 q569 q570 q571 q572 => (hkc_126 b q204 q559 q560 q561).trans (hfr0 b q2 q204 q205 q207 q209 q213 q533 q558 q559 q560 q561 q562 q563 q564 q565 q566 q567 q568 q569 q570 q571 q572)
        have hrr2_0 : ∀ b, kd b = 2 → fldR (f_125 b) 0 = fldR (f b) 0 := fun b kb => (congrArg (fun x => fldR x 0) (hkc_126 b (by rw [kb]; decide) (by rw [kb]; decide) (by rw [kb]; decide) (by rw [kb]; decide))).trans (hrr2_0 b kb)
        have hrr2_3 : ∀ b, kd b = 2 → fldR (f_125 b) 3 = fldR (f b) 3 := fun b kb => (congrArg (fun x => fldR x 3) (hkc_126 b (by rw [kb]; decide) (by rw [kb]; decide) (by rw [kb]; decide) (by rw [kb]; decide))).trans (hrr2_3 b kb)
        have hrr207_0 : ∀ b, kd b = 207 → fldR (f_125 b) 0 = fldR (f b) 0 := fun b kb => (congrArg (fun x => fldR x 0) (hkc_126 b (by rw [kb]; decide) (by rw [kb]; decide) (by rw [kb]; decide) (by rw [kb]; decide))).trans (hrr207_0 b kb)
        have hrr207_3 : ∀ b, kd b = 207 → fldR (f_125 b) 3 = fldR (f b) 3 := fun b kb => (congrArg (fun x => fldR x 3) (hkc_126 b (by rw [kb]; decide) (by rw [kb]; decide) (by rw [kb]; decide) (by rw [kb]; decide))).trans (hrr207_3 b kb)
        have hrr207_11 : ∀ b, kd b = 207 → fldR (f_125 b) 11 = fldR (f b) 11 := fun b kb => (congrArg (fun x => fldR x 11) (hkc_126 b (by rw [kb]; decide) (by rw [kb]; decide) (by rw [kb]; decide) (by rw [kb]; decide))).trans (hrr207_11 b kb)
        have hTc_57 : trel kd 207 566 568 573 204 f_125 a_2 := hTc_57.keep (fun b q => hkc_126 b (by rw [q]; decide) (by rw [q]; decide) (by rw [q]; decide) (by rw [q]; decide)) (fun b q => hkc_126 b (by rw [q]; decide) (by rw [q]; decide) (by rw [q]; decide) (by rw [q]; decide)) (fun b q => hkc_126 b (by rw [q]; decide) (by rw [q]; decide) (by rw [q]; decide) (by rw [q]; decide)) (fun b q => hkc_126 b (by rw [q]; decide) (by rw [q]; decide) (by rw [q]; decide) (by rw [q]; decide)) (fun b q => hfc_127 b q)
        refine lv_iconst (v := 1) hx hb dX2_read_89 (by decide) ?_
        exact W.zret (v := 1) (ty := .boolean) hx hb hr rfl (fun t ht hW => ⟨⟨1, f_125, rfl, ⟨hG, (by decide), hfr0, hrr2_0, hrr2_3, hrr207_0, hrr207_3, hrr207_11, (fun d9 h9 => by rw [hfo_130] at h9; obtain rfl := Option.some.inj h9; exact hTc_57)⟩, by rw [ht]; exact hP, va_K.moved hW.alike hK, pl_in hD⟩, hS.F ht⟩) hS.2.2 dX2_read_90
      · skip
        rw [Int32.lt_iff_toInt_lt] at c_106
        refine lv_aload_n hx hb dX2_read_59 rfl (lv_at hl 1 rfl) ?_
        refine tk_ViP (As := []) (rest := []) (n := 0) hx hb hml hown hU hN hZ (s_X2_peek_k2 l (dC, dI) cI cL cZ cR cG cH Z kd L f_94 hG o0 mo0 ko0) wd_274 wd_275 wd_276 wd_33 wd_277 (by decide +kernel) ⟨Nat.le_of_ble_eq_true rfl, Nat.le_of_ble_eq_true rfl⟩ hK hP hD hS mo0 hfo_95 2 rfl rfl rfl hl.1 rfl (Nat.le_of_ble_eq_true rfl) dX2_read_60 ⟨Nat.le_of_ble_eq_true rfl, Nat.le_of_ble_eq_true rfl⟩ (fun x_132 f_133 H locs hw hP hD hS => ?_)
        obtain ⟨hG, bx_132, hkc_134, hfc_135, hfc_136, hfc_137, hrc_138, hrc_139, hpost_140, hxp_141⟩ := hw
        have hfr0 : ∀ b, kd b ≠ 2 → kd b ≠ 204 → kd b ≠ 205 → kd b ≠ 207 → kd b ≠ 209 → kd b ≠ 213 → kd b ≠ 533 → kd b ≠ 558 → kd b ≠ 559 → kd b ≠ 560 → kd b ≠ 561 → kd b ≠ 562 → kd b ≠ 563 → kd b ≠ 564 → kd b ≠ 565 → kd b ≠ 566 → kd b ≠ 567 → kd b ≠ 568 → kd b ≠ 569 → kd b ≠ 570 → kd b ≠ 571 → kd b ≠ 572 → f_133 b = f b := fun b q2 q204 q205 q207 q209 q213 q533 q558 q559 q560 q561 q562 q563 q564 q565 q566 q567 q568 q569 q570 q571 q572 => (hkc_134 b q2).trans (hfr0 b q2 q204 q205 q207 q209 q213 q533 q558 q559 q560 q561 q562 q563 q564 q565 q566 q567 q568 q569 q570 q571 q572)
        have hrr2_0 : ∀ b, kd b = 2 → fldR (f_133 b) 0 = fldR (f b) 0 := fun b kb => (hrc_138 b kb).trans (hrr2_0 b kb)
        have hrr2_3 : ∀ b, kd b = 2 → fldR (f_133 b) 3 = fldR (f b) 3 := fun b kb => (hrc_139 b kb).trans (hrr2_3 b kb)
        have hrr207_0 : ∀ b, kd b = 207 → fldR (f_133 b) 0 = fldR (f b) 0 := fun b kb => (congrArg (fun x => fldR x 0) (hkc_134 b (by rw [kb]; decide))).trans (hrr207_0 b kb)
        have hrr207_3 : ∀ b, kd b = 207 → fldR (f_133 b) 3 = fldR (f b) 3 := fun b kb => (congrArg (fun x => fldR x 3) (hkc_134 b (by rw [kb]; decide))).trans (hrr207_3 b kb)
        have hrr207_11 : ∀ b, kd b = 207 → fldR (f_133 b) 11 = fldR (f b) 11 := fun b kb => (congrArg (fun x => fldR x 11) (hkc_134 b (by rw [kb]; decide))).trans (hrr207_11 b kb)
        have hTc_57 : trel kd 207 566 568 573 204 f_133 a_2 := hTc_57.keep (fun b q => hkc_134 b (by rw [q]; decide)) (fun b q => hkc_134 b (by rw [q]; decide)) (fun b q => hkc_134 b (by rw [q]; decide)) (fun b q => hkc_134 b (by rw [q]; decide)) (fun b q => congrArg (fun x => fldI x 1) (hkc_134 b (by rw [q]; decide)))
        obtain ⟨a_144, v_145, v_146, a_147, v_148, v_149, v_150, v_151, v_152, v_153, hfo_143, ⟨ma_144, ka_144⟩, ⟨ma_147, ka_147⟩, bv_148, bv_149, bv_150, bv_151, bv_152⟩ := un_2 (hG _ mo0) ko0
        have bv_145 : ((-2147483648) ≤ v_145.toInt ∧ v_145.toInt ≤ 2147483647) := ⟨i32_lo _, i32_hi _⟩
        have bv_146 : ((-2147483648) ≤ v_146.toInt ∧ v_146.toInt ≤ 2147483647) := ⟨i32_lo _, i32_hi _⟩
        have bv_153 : ((-2147483648) ≤ v_153.toInt ∧ v_153.toInt ≤ 2147483647) := ⟨i32_lo _, i32_hi _⟩
        obtain rfl : a_2 = a_144 := by have hk9 := hrr2_0 o0 ko0; rw [hfo_143, hfo_1] at hk9; exact (Option.some.inj hk9).symm
        obtain rfl : a_5 = a_147 := by have hk9 := hrr2_3 o0 ko0; rw [hfo_143, hfo_1] at hk9; exact (Option.some.inj hk9).symm
        obtain rfl : v_100 = v_148 := by have hk9 := hfc_135 o0 ko0; rw [hfo_143, hfo_95] at hk9; exact (Option.some.inj hk9).symm
        obtain rfl : v_103 = v_151 := by have hk9 := hfc_136 o0 ko0; rw [hfo_143, hfo_95] at hk9; exact (Option.some.inj hk9).symm
        obtain rfl : v_104 = v_152 := by have hk9 := hfc_137 o0 ko0; rw [hfo_143, hfo_95] at hk9; exact (Option.some.inj hk9).symm
        have hqhpost_140 := hpost_140 v_101 v_149 (by rw [hfo_95]; rfl) (by rw [hfo_143]; rfl)
        obtain ⟨g_155, hfo_154, hbg_155⟩ := un_533 (hG _ ma_5) ka_5
        have hpkx_132 := hxp_141 a_5 g_155 v_149 (by rw [hfo_143]; rfl) hfo_154 (by rw [hfo_143]; rfl)
        refine lv_iconst (v := (-1)) hx hb dX2_read_63 (by decide) ?_
        refine lv_icmp_eq (tgt := 82) hx hb dX2_read_64 (by decide) (fun c_156 => ?_) (fun c_156 => ?_)
        · skip
          rw [← Int32.toInt_inj, ti_m1] at c_156
          refine lv_aload_n hx hb dX2_read_82 rfl (lv_at hl 1 rfl) ?_
          refine tk_getP (D := (dC, dI)) (ci := 2) (v := .ref a_2) (C := RX2) (T := TX2) (N := 10) hx hb hU inlX2 hown hK hP mo0 hfo_143 rfl 0 (by decide) (hU _ wd_150) (fun _ h9 => h9) rfl dX2_read_83 ?_
          obtain ⟨a_158, v_159, a_160, a_161, a_162, a_163, v_164, a_165, a_166, a_167, a_168, a_169, v_170, a_171, a_172, a_173, hfo_157, ⟨ma_158, ka_158⟩, bv_159, ⟨ma_160, ka_160⟩, ⟨ma_161, ka_161⟩, ⟨ma_162, ka_162⟩, ⟨ma_163, ka_163⟩, bv_164, ⟨ma_165, ka_165⟩, ⟨ma_166, ka_166⟩, ⟨ma_167, ka_167⟩, ⟨ma_168, ka_168⟩, ⟨ma_169, ka_169⟩, bv_170, ⟨ma_171, ka_171⟩, ⟨ma_172, ka_172⟩, ⟨ma_173, ka_173⟩⟩ := un_207 (hG _ ma_2) ka_2
          refine tk_VvP (As := []) (rest := []) (n := 0) hx hb hml hown hU hN hZ (s_X7_compile_k207 l (dC, dI) cI cL cZ cR cG cH Z kd L f_133 hG a_2 ma_2 ka_2) wd_481 wd_482 wd_483 wd_28 wd_484 (by decide +kernel) ⟨Nat.le_of_ble_eq_true rfl, Nat.le_of_ble_eq_true rfl⟩ hK hP hD hS ma_2 hfo_157 7 rfl rfl rfl hl.1 rfl (Nat.le_of_ble_eq_true rfl) dX2_read_86 ⟨Nat.le_of_ble_eq_true rfl, Nat.le_of_ble_eq_true rfl⟩ (fun f_175 H locs hw hP hD hS => ?_)
          obtain ⟨hG, hkc_176, hfc_177, hfc_178⟩ := hw
          have hfo_180 : f_175 o0 = .inr (2, [.ref a_2, .int v_145, .int v_146, .ref a_5, .int v_100, .int v_149, .int v_150, .int v_103, .int v_104, .int v_153]) := by rw [hkc_176 o0 (by rw [ko0]; decide) (by rw [ko0]; decide) (by rw [ko0]; decide) (by rw [ko0]; decide)]; exact hfo_143
          have hfo_181 : f_175 a_5 = .inl (cI, 600, .inl g_155) := by rw [hkc_176 a_5 (by rw [ka_5]; decide) (by rw [ka_5]; decide) (by rw [ka_5]; decide) (by rw [ka_5]; decide)]; exact hfo_154
          have hfo_182 : f_175 a_2 = .inr (7, [.ref a_158, .int v_159, .ref a_160, .ref a_161, .ref a_162, .ref a_163, .int v_164, .ref a_165, .ref a_166, .ref a_167, .ref a_168, .ref a_169, .int v_170, .ref a_171, .ref a_172, .ref a_173]) := by rw [hkc_176 a_2 (by rw [ka_2]; decide) (by rw [ka_2]; decide) (by rw [ka_2]; decide) (by rw [ka_2]; decide)]; exact hfo_157
          have hfr0 : ∀ b, kd b ≠ 2 → kd b ≠ 204 → kd b ≠ 205 → kd b ≠ 207 → kd b ≠ 209 → kd b ≠ 213 → kd b ≠ 533 → kd b ≠ 558 → kd b ≠ 559 → kd b ≠ 560 → kd b ≠ 561 → kd b ≠ 562 → kd b ≠ 563 → kd b ≠ 564 → kd b ≠ 565 → kd b ≠ 566 → kd b ≠ 567 → kd b ≠ 568 → kd b ≠ 569 → kd b ≠ 570 → kd b ≠ 571 → kd b ≠ 572 → f_175 b = f b := fun b q2 q204 q205 q207 q209 q213 q533 q558 q559 q560 q561 q562 q563 q564 q565 q566 q567 q568 q569 q570 q571 q572 => (hkc_176 b q204 q559 q560 q561).trans (hfr0 b q2 q204 q205 q207 q209 q213 q533 q558 q559 q560 q561 q562 q563 q564 q565 q566 q567 q568 q569 q570 q571 q572)
          have hrr2_0 : ∀ b, kd b = 2 → fldR (f_175 b) 0 = fldR (f b) 0 := fun b kb => (congrArg (fun x => fldR x 0) (hkc_176 b (by rw [kb]; decide) (by rw [kb]; decide) (by rw [kb]; decide) (by rw [kb]; decide))).trans (hrr2_0 b kb)
          have hrr2_3 : ∀ b, kd b = 2 → fldR (f_175 b) 3 = fldR (f b) 3 := fun b kb => (congrArg (fun x => fldR x 3) (hkc_176 b (by rw [kb]; decide) (by rw [kb]; decide) (by rw [kb]; decide) (by rw [kb]; decide))).trans (hrr2_3 b kb)
          have hrr207_0 : ∀ b, kd b = 207 → fldR (f_175 b) 0 = fldR (f b) 0 := fun b kb => (congrArg (fun x => fldR x 0) (hkc_176 b (by rw [kb]; decide) (by rw [kb]; decide) (by rw [kb]; decide) (by rw [kb]; decide))).trans (hrr207_0 b kb)
          have hrr207_3 : ∀ b, kd b = 207 → fldR (f_175 b) 3 = fldR (f b) 3 := fun b kb => (congrArg (fun x => fldR x 3) (hkc_176 b (by rw [kb]; decide) (by rw [kb]; decide) (by rw [kb]; decide) (by rw [kb]; decide))).trans (hrr207_3 b kb)
          have hrr207_11 : ∀ b, kd b = 207 → fldR (f_175 b) 11 = fldR (f b) 11 := fun b kb => (congrArg (fun x => fldR x 11) (hkc_176 b (by rw [kb]; decide) (by rw [kb]; decide) (by rw [kb]; decide) (by rw [kb]; decide))).trans (hrr207_11 b kb)
          have hTc_57 : trel kd 207 566 568 573 204 f_175 a_2 := hTc_57.keep (fun b q => hkc_176 b (by rw [q]; decide) (by rw [q]; decide) (by rw [q]; decide) (by rw [q]; decide)) (fun b q => hkc_176 b (by rw [q]; decide) (by rw [q]; decide) (by rw [q]; decide) (by rw [q]; decide)) (fun b q => hkc_176 b (by rw [q]; decide) (by rw [q]; decide) (by rw [q]; decide) (by rw [q]; decide)) (fun b q => hkc_176 b (by rw [q]; decide) (by rw [q]; decide) (by rw [q]; decide) (by rw [q]; decide)) (fun b q => hfc_177 b q)
          refine lv_iconst (v := 1) hx hb dX2_read_89 (by decide) ?_
          exact W.zret (v := 1) (ty := .boolean) hx hb hr rfl (fun t ht hW => ⟨⟨1, f_175, rfl, ⟨hG, (by decide), hfr0, hrr2_0, hrr2_3, hrr207_0, hrr207_3, hrr207_11, (fun d9 h9 => by rw [hfo_180] at h9; obtain rfl := Option.some.inj h9; exact hTc_57)⟩, by rw [ht]; exact hP, va_K.moved hW.alike hK, pl_in hD⟩, hS.F ht⟩) hS.2.2 dX2_read_90
        · skip
          rw [← Int32.toInt_inj, ti_m1] at c_156
          refine lv_aload_n hx hb dX2_read_67 rfl (lv_at hl 1 rfl) ?_
          refine tk_ViP (As := []) (rest := []) (n := 0) hx hb hml hown hU hN hZ (s_X2_readStatement_k2 l (dC, dI) cI cL cZ cR cG cH Z kd L f_133 hG o0 mo0 ko0 (fun d9 h9 => by rw [hfo_143] at h9; obtain rfl := Option.some.inj h9; exact hTc_57)) wd_278 wd_279 wd_280 wd_33 wd_281 (by decide +kernel) ⟨Nat.le_of_ble_eq_true rfl, Nat.le_of_ble_eq_true rfl⟩ hK hP hD hS mo0 hfo_143 2 rfl rfl rfl hl.1 rfl (Nat.le_of_ble_eq_true rfl) dX2_read_68 ⟨Nat.le_of_ble_eq_true rfl, Nat.le_of_ble_eq_true rfl⟩ (fun x_183 f_184 H locs hw hP hD hS => ?_)
          obtain ⟨hG, bx_183, hkc_185, hfc_186, hrc_187, hrc_188, hrc_189, hrc_190, hrc_191, hTc_192⟩ := hw
          have hfo_194 : f_184 a_5 = .inl (cI, 600, .inl g_155) := by rw [hkc_185 a_5 (by rw [ka_5]; decide) (by rw [ka_5]; decide) (by rw [ka_5]; decide) (by rw [ka_5]; decide) (by rw [ka_5]; decide) (by rw [ka_5]; decide) (by rw [ka_5]; decide) (by rw [ka_5]; decide) (by rw [ka_5]; decide) (by rw [ka_5]; decide) (by rw [ka_5]; decide) (by rw [ka_5]; decide) (by rw [ka_5]; decide) (by rw [ka_5]; decide) (by rw [ka_5]; decide) (by rw [ka_5]; decide) (by rw [ka_5]; decide) (by rw [ka_5]; decide) (by rw [ka_5]; decide)]; exact hfo_154
          have hfr0 : ∀ b, kd b ≠ 2 → kd b ≠ 204 → kd b ≠ 205 → kd b ≠ 207 → kd b ≠ 209 → kd b ≠ 213 → kd b ≠ 533 → kd b ≠ 558 → kd b ≠ 559 → kd b ≠ 560 → kd b ≠ 561 → kd b ≠ 562 → kd b ≠ 563 → kd b ≠ 564 → kd b ≠ 565 → kd b ≠ 566 → kd b ≠ 567 → kd b ≠ 568 → kd b ≠ 569 → kd b ≠ 570 → kd b ≠ 571 → kd b ≠ 572 → f_184 b = f b := fun b q2 q204 q205 q207 q209 q213 q533 q558 q559 q560 q561 q562 q563 q564 q565 q566 q567 q568 q569 q570 q571 q572 => (hkc_185 b q2 q204 q205 q207 q209 q213 q558 q559 q562 q563 q564 q565 q566 q567 q568 q569 q570 q571 q572).trans (hfr0 b q2 q204 q205 q207 q209 q213 q533 q558 q559 q560 q561 q562 q563 q564 q565 q566 q567 q568 q569 q570 q571 q572)
          have hrr2_0 : ∀ b, kd b = 2 → fldR (f_184 b) 0 = fldR (f b) 0 := fun b kb => (hrc_187 b kb).trans (hrr2_0 b kb)
          have hrr2_3 : ∀ b, kd b = 2 → fldR (f_184 b) 3 = fldR (f b) 3 := fun b kb => (hrc_188 b kb).trans (hrr2_3 b kb)
          have hrr207_0 : ∀ b, kd b = 207 → fldR (f_184 b) 0 = fldR (f b) 0 := fun b kb => (hrc_189 b kb).trans (hrr207_0 b kb)
          have hrr207_3 : ∀ b, kd b = 207 → fldR (f_184 b) 3 = fldR (f b) 3 := fun b kb => (hrc_190 b kb).trans (hrr207_3 b kb)
          have hrr207_11 : ∀ b, kd b = 207 → fldR (f_184 b) 11 = fldR (f b) 11 := fun b kb => (hrc_191 b kb).trans (hrr207_11 b kb)
          obtain ⟨a_196, v_197, v_198, a_199, v_200, v_201, v_202, v_203, v_204, v_205, hfo_195, ⟨ma_196, ka_196⟩, ⟨ma_199, ka_199⟩, bv_200, bv_201, bv_202, bv_203, bv_204⟩ := un_2 (hG _ mo0) ko0
          have bv_197 : ((-2147483648) ≤ v_197.toInt ∧ v_197.toInt ≤ 2147483647) := ⟨i32_lo _, i32_hi _⟩
          have bv_198 : ((-2147483648) ≤ v_198.toInt ∧ v_198.toInt ≤ 2147483647) := ⟨i32_lo _, i32_hi _⟩
          have bv_205 : ((-2147483648) ≤ v_205.toInt ∧ v_205.toInt ≤ 2147483647) := ⟨i32_lo _, i32_hi _⟩
          obtain rfl : a_2 = a_196 := by have hk9 := hrr2_0 o0 ko0; rw [hfo_195, hfo_1] at hk9; exact (Option.some.inj hk9).symm
          obtain rfl : a_5 = a_199 := by have hk9 := hrr2_3 o0 ko0; rw [hfo_195, hfo_1] at hk9; exact (Option.some.inj hk9).symm
          obtain rfl : v_100 = v_200 := by have hk9 := hfc_186 o0 ko0; rw [hfo_195, hfo_143] at hk9; exact (Option.some.inj hk9).symm
          have hT_206 := hTc_192 a_2 (by rw [hfo_195]; rfl)
          refine lv_if_ne (tgt := 76) hx hb dX2_read_71 (by decide) (fun c_207 => ?_) (fun c_207 => ?_)
          · skip
            rw [← Int32.toInt_inj, ti_0] at c_207
            obtain ⟨x_208, ex_208⟩ : ∃ y : Int32, y_92 + 1 = y := ⟨_, rfl⟩
            have hx_208 : x_208.toInt = y_92.toInt + 1 := by rw [← ex_208, ad_I (by rw [ti_1]; omega) (by rw [ti_1]; omega), ti_1]
            have bx_208 : (1 ≤ x_208.toInt ∧ x_208.toInt ≤ 601) := by constructor <;> omega
            refine lv_iinc (v := x_208) (lv' := [(3, .int x_208), (0, .ref o0), (1, .ref o1), (2, .int p2)]) hx hb dX2_read_76 hl (k := 0) rfl ex_208 (by decide) rfl (fun ls hl => ?_)
            refine lv_goto (tgt := 51) hx hb dX2_read_79 (by decide) ?_
            exact ih_hloop_91 x_208 (by constructor <;> omega) f_184 hG _ _ hP hS hD hfr0 hrr2_0 hrr2_3 hrr207_0 hrr207_3 hrr207_11 hT_206 (by omega) ls (lv_sub hl [0, 1, 2, 3] rfl)
          · skip
            rw [← Int32.toInt_inj, ti_0] at c_207
            refine lv_iconst (v := 0) hx hb dX2_read_74 (by decide) ?_
            exact W.zret (v := 0) (ty := .boolean) hx hb hr rfl (fun t ht hW => ⟨⟨0, f_184, rfl, ⟨hG, (by decide), hfr0, hrr2_0, hrr2_3, hrr207_0, hrr207_3, hrr207_11, (fun d9 h9 => by rw [hfo_195] at h9; obtain rfl := Option.some.inj h9; exact hT_206)⟩, by rw [ht]; exact hP, va_K.moved hW.alike hK, pl_in hD⟩, hS.F ht⟩) hS.2.2 dX2_read_75
  exact hloop_91 602 0 (by decide) f_52 hG _ _ hP hS hD hfr0 hrr2_0 hrr2_3 hrr207_0 hrr207_3 hrr207_11 hTc_57 (by (try rw [ti_0]) <;> omega) ls hl
