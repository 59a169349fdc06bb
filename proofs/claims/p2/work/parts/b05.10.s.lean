set_option maxHeartbeats 8000000 in
set_option maxRecDepth 100000 in
theorem s_X3_collect_k3 (l : Launch) (D : va_G) (cI cL cZ cR cG cH : ClassId) (Z : zT) (kd : Nat → Nat) (L : List Nat) (f : Nat → va_E) (hG : GI (okc cI cL cZ cR cG cH L kd) kd L f) (o0 : Nat) (mo0 : o0 ∈ L) (ko0 : kd o0 = 3) (p1 : Int32) (bp1 : (0 ≤ p1.toInt ∧ p1.toInt ≤ 1)) (p2 : Int32) (p3 : Int32) (hxtr0 : ∀ d9, fldR (f o0) 3 = some d9 → drel kd 1 521 522 f d9) : mPV l D cI cL cZ cR cG cH Z yX3_collect cX3_collect 4 none 14 494 [.ref o0, .int p1, .int p2, .int p3] L f (fun (f9 : Nat → va_E) => GI (okc cI cL cZ cR cG cH L kd) kd L f9 ∧ (∀ b, kd b ≠ 1 → kd b ≠ 3 → kd b ≠ 10 → kd b ≠ 517 → kd b ≠ 518 → kd b ≠ 519 → kd b ≠ 520 → kd b ≠ 521 → kd b ≠ 522 → kd b ≠ 523 → kd b ≠ 524 → kd b ≠ 525 → kd b ≠ 526 → kd b ≠ 527 → f9 b = f b) ∧ (∀ b, kd b = 1 → fldR (f9 b) 0 = fldR (f b) 0) ∧ (∀ b, kd b = 1 → fldR (f9 b) 1 = fldR (f b) 1) ∧ (∀ b, kd b = 3 → fldR (f9 b) 0 = fldR (f b) 0) ∧ (∀ b, kd b = 3 → fldR (f9 b) 3 = fldR (f b) 3) ∧ (∀ d9, fldR (f9 o0) 3 = some d9 → drel kd 1 521 522 f9 d9)) := by
  obtain ⟨dC, dI⟩ := D
  refine Met.ofW (cc := cX3_collect) (maxL := 4) (ret := none) (by decide) rfl ?_
  intro p e s m args below meth c s₁ B hml hv
  obtain ⟨rfl, hP, hK, hD0, hN, hZ⟩ := hv
  have hx := B.exec
  have hb := B.bytes
  have hr := B.returns
  have hU : ∀ w ∈ wsU, w.before _ s = true := fun w h => atoms_spec (ws := wU yX3_collect cX3_collect 4 none) B.pre w (List.mem_cons_of_mem _ h)
  have hown : s.vm.findClass RX3 = some m.cls := findClass_of_methodNamed B.named
  have hlocks := B.notSynchronized
  have hD := pl_in hD0
  have hS : va_S (fun q => q ∈ L) s.heap s.heap [] := va_S.rf
  have hl := lv_entry ([.ref o0, .int p1, .int p2, .int p3]) (n := 4) (Nat.le_of_ble_eq_true rfl)
  rw [lg_entry_eq]
  generalize (lg_sl ([.ref o0, .int p1, .int p2, .int p3]) ++ List.replicate (4 - (lg_sl ([.ref o0, .int p1, .int p2, .int p3])).length) Slot.unset).toArray = ls at hl ⊢
  have hl : lv_has ls 4 [(0, .ref o0), (1, .int p1), (2, .int p2), (3, .int p3)] := hl
  have bp2 : ((-2147483648) ≤ p2.toInt ∧ p2.toInt ≤ 2147483647) := ⟨i32_lo _, i32_hi _⟩
  have bp3 : ((-2147483648) ≤ p3.toInt ∧ p3.toInt ≤ 2147483647) := ⟨i32_lo _, i32_hi _⟩
  have hfr0 : ∀ b, kd b ≠ 1 → kd b ≠ 3 → kd b ≠ 10 → kd b ≠ 517 → kd b ≠ 518 → kd b ≠ 519 → kd b ≠ 520 → kd b ≠ 521 → kd b ≠ 522 → kd b ≠ 523 → kd b ≠ 524 → kd b ≠ 525 → kd b ≠ 526 → kd b ≠ 527 → f b = f b := fun _ _ _ _ _ _ _ _ _ _ _ _ _ _ _ => rfl
  have hrr1_0 : ∀ b, kd b = 1 → fldR (f b) 0 = fldR (f b) 0 := fun _ _ => rfl
  have hrr1_1 : ∀ b, kd b = 1 → fldR (f b) 1 = fldR (f b) 1 := fun _ _ => rfl
  have hrr3_0 : ∀ b, kd b = 3 → fldR (f b) 0 = fldR (f b) 0 := fun _ _ => rfl
  have hrr3_3 : ∀ b, kd b = 3 → fldR (f b) 3 = fldR (f b) 3 := fun _ _ => rfl
  obtain ⟨a_2, a_3, a_4, a_5, a_6, v_7, v_8, v_9, v_10, v_11, v_12, v_13, a_14, a_15, a_16, v_17, a_18, a_19, hfo_1, ⟨ma_2, ka_2⟩, ⟨ma_3, ka_3⟩, ⟨ma_4, ka_4⟩, ⟨ma_5, ka_5⟩, ⟨ma_6, ka_6⟩, bv_7, bv_8, bv_9, ⟨ma_14, ka_14⟩, ⟨ma_15, ka_15⟩, ⟨ma_16, ka_16⟩, bv_17, ⟨ma_18, ka_18⟩, ⟨ma_19, ka_19⟩⟩ := un_3 (hG _ mo0) ko0
  have bv_10 : ((-2147483648) ≤ v_10.toInt ∧ v_10.toInt ≤ 2147483647) := ⟨i32_lo _, i32_hi _⟩
  have bv_11 : ((-2147483648) ≤ v_11.toInt ∧ v_11.toInt ≤ 2147483647) := ⟨i32_lo _, i32_hi _⟩
  have bv_12 : ((-2147483648) ≤ v_12.toInt ∧ v_12.toInt ≤ 2147483647) := ⟨i32_lo _, i32_hi _⟩
  have bv_13 : ((-2147483648) ≤ v_13.toInt ∧ v_13.toInt ≤ 2147483647) := ⟨i32_lo _, i32_hi _⟩
  have hT0 := hxtr0 a_5 (by rw [hfo_1]; rfl)
  refine lv_aload_n hx hb dX3_collect_0 rfl (lv_at hl 0 rfl) ?_
  refine lv_iload_n hx hb dX3_collect_1 rfl (lv_at hl 1 rfl) ?_
  refine tk_putP (D := (dC, dI)) (ci := 3) (v := .int p1) (ty := .boolean) (C := RX3) (T := TX3) (N := 18) hx hb hU inlX3 tyX3 tyX3_ok nmX3 hown hK hP hD hS mo0 hfo_1 rfl 6 (by decide) (hU _ wd_732) (fun _ h9 => h9) rfl (by decide +kernel) (zb_n (by constructor <;> omega)) (zb_f (by constructor <;> omega)) (Nat.le_of_ble_eq_true rfl) dX3_collect_2 (fun H locs hP hD hS => ?_)
  obtain ⟨f_21, ef_21⟩ : ∃ y : Nat → va_E, y = va_up f o0 (.inr (3, [.ref a_2, .ref a_3, .ref a_4, .ref a_5, .ref a_6, .int v_7, .int p1, .int v_9, .int v_10, .int v_11, .int v_12, .int v_13, .ref a_14, .ref a_15, .ref a_16, .int v_17, .ref a_18, .ref a_19])) := ⟨_, rfl⟩
  have hP : va_P (dC, dI) vwCl (va_pl L f_21) H := by rw [ef_21]; exact hP
  have hD : va_D (fun q => q ∈ L) (va_pl L f_21) := by rw [ef_21]; exact hD
  have hG : GI (okc cI cL cZ cR cG cH L kd) kd L f_21 := by rw [ef_21]; exact hG.set o0 (mk_3 ko0 ⟨a_2, a_3, a_4, a_5, a_6, v_7, p1, v_9, v_10, v_11, v_12, v_13, a_14, a_15, a_16, v_17, a_18, a_19, rfl, ⟨ma_2, ka_2⟩, ⟨ma_3, ka_3⟩, ⟨ma_4, ka_4⟩, ⟨ma_5, ka_5⟩, ⟨ma_6, ka_6⟩, (by constructor <;> omega), (by constructor <;> omega), (by constructor <;> omega), ⟨ma_14, ka_14⟩, ⟨ma_15, ka_15⟩, ⟨ma_16, ka_16⟩, (by constructor <;> omega), ⟨ma_18, ka_18⟩, ⟨ma_19, ka_19⟩⟩)
  have hfr0 : ∀ b, kd b ≠ 1 → kd b ≠ 3 → kd b ≠ 10 → kd b ≠ 517 → kd b ≠ 518 → kd b ≠ 519 → kd b ≠ 520 → kd b ≠ 521 → kd b ≠ 522 → kd b ≠ 523 → kd b ≠ 524 → kd b ≠ 525 → kd b ≠ 526 → kd b ≠ 527 → f_21 b = f b := fun b q1 q3 q10 q517 q518 q519 q520 q521 q522 q523 q524 q525 q526 q527 => (congrFun ef_21 b).trans ((up_ne (fun e9 => q3 (by rw [e9]; exact ko0))).trans (hfr0 b q1 q3 q10 q517 q518 q519 q520 q521 q522 q523 q524 q525 q526 q527))
  have hrr1_0 : ∀ b, kd b = 1 → fldR (f_21 b) 0 = fldR (f b) 0 := fun b kb => (congrArg (fun x => fldR x 0) ((congrFun ef_21 b).trans (up_ne (kd_ne ko0 kb (by decide))))).trans (hrr1_0 b kb)
  have hrr1_1 : ∀ b, kd b = 1 → fldR (f_21 b) 1 = fldR (f b) 1 := fun b kb => (congrArg (fun x => fldR x 1) ((congrFun ef_21 b).trans (up_ne (kd_ne ko0 kb (by decide))))).trans (hrr1_1 b kb)
  have hrr3_0 : ∀ b, kd b = 3 → fldR (f_21 b) 0 = fldR (f b) 0 := fun b kb => ((congrArg (fun x => fldR x 0) (congrFun ef_21 b)).trans (fr_up (by rw [hfo_1]; rfl) b)).trans (hrr3_0 b kb)
  have hrr3_3 : ∀ b, kd b = 3 → fldR (f_21 b) 3 = fldR (f b) 3 := fun b kb => ((congrArg (fun x => fldR x 3) (congrFun ef_21 b)).trans (fr_up (by rw [hfo_1]; rfl) b)).trans (hrr3_3 b kb)
  have hT0 : drel kd 1 521 522 f_21 a_5 := by rw [ef_21]; exact hT0.up ko0 (by decide) (by decide) (by decide)
  have hfo_22 : f_21 o0 = .inr (3, [.ref a_2, .ref a_3, .ref a_4, .ref a_5, .ref a_6, .int v_7, .int p1, .int v_9, .int v_10, .int v_11, .int v_12, .int v_13, .ref a_14, .ref a_15, .ref a_16, .int v_17, .ref a_18, .ref a_19]) := by rw [ef_21]; exact up_self
  refine lv_aload_n hx hb dX3_collect_5 rfl (lv_at hl 0 rfl) ?_
  refine lv_iconst (v := 1) hx hb dX3_collect_6 (by decide) ?_
  refine tk_putP (D := (dC, dI)) (ci := 3) (v := .int 1) (ty := .boolean) (C := RX3) (T := TX3) (N := 18) hx hb hU inlX3 tyX3 tyX3_ok nmX3 hown hK hP hD hS mo0 hfo_22 rfl 7 (by decide) (hU _ wd_733) (fun _ h9 => h9) rfl (by decide +kernel) rfl rfl (Nat.le_of_ble_eq_true rfl) dX3_collect_7 (fun H locs hP hD hS => ?_)
  obtain ⟨f_24, ef_24⟩ : ∃ y : Nat → va_E, y = va_up f_21 o0 (.inr (3, [.ref a_2, .ref a_3, .ref a_4, .ref a_5, .ref a_6, .int v_7, .int p1, .int 1, .int v_10, .int v_11, .int v_12, .int v_13, .ref a_14, .ref a_15, .ref a_16, .int v_17, .ref a_18, .ref a_19])) := ⟨_, rfl⟩
  have hP : va_P (dC, dI) vwCl (va_pl L f_24) H := by rw [ef_24]; exact hP
  have hD : va_D (fun q => q ∈ L) (va_pl L f_24) := by rw [ef_24]; exact hD
  have hG : GI (okc cI cL cZ cR cG cH L kd) kd L f_24 := by rw [ef_24]; exact hG.set o0 (mk_3 ko0 ⟨a_2, a_3, a_4, a_5, a_6, v_7, p1, 1, v_10, v_11, v_12, v_13, a_14, a_15, a_16, v_17, a_18, a_19, rfl, ⟨ma_2, ka_2⟩, ⟨ma_3, ka_3⟩, ⟨ma_4, ka_4⟩, ⟨ma_5, ka_5⟩, ⟨ma_6, ka_6⟩, (by constructor <;> omega), (by constructor <;> omega), (by decide), ⟨ma_14, ka_14⟩, ⟨ma_15, ka_15⟩, ⟨ma_16, ka_16⟩, (by constructor <;> omega), ⟨ma_18, ka_18⟩, ⟨ma_19, ka_19⟩⟩)
  have hfr0 : ∀ b, kd b ≠ 1 → kd b ≠ 3 → kd b ≠ 10 → kd b ≠ 517 → kd b ≠ 518 → kd b ≠ 519 → kd b ≠ 520 → kd b ≠ 521 → kd b ≠ 522 → kd b ≠ 523 → kd b ≠ 524 → kd b ≠ 525 → kd b ≠ 526 → kd b ≠ 527 → f_24 b = f b := fun b q1 q3 q10 q517 q518 q519 q520 q521 q522 q523 q524 q525 q526 q527 => (congrFun ef_24 b).trans ((up_ne (fun e9 => q3 (by rw [e9]; exact ko0))).trans (hfr0 b q1 q3 q10 q517 q518 q519 q520 q521 q522 q523 q524 q525 q526 q527))
  have hrr1_0 : ∀ b, kd b = 1 → fldR (f_24 b) 0 = fldR (f b) 0 := fun b kb => (congrArg (fun x => fldR x 0) ((congrFun ef_24 b).trans (up_ne (kd_ne ko0 kb (by decide))))).trans (hrr1_0 b kb)
  have hrr1_1 : ∀ b, kd b = 1 → fldR (f_24 b) 1 = fldR (f b) 1 := fun b kb => (congrArg (fun x => fldR x 1) ((congrFun ef_24 b).trans (up_ne (kd_ne ko0 kb (by decide))))).trans (hrr1_1 b kb)
  have hrr3_0 : ∀ b, kd b = 3 → fldR (f_24 b) 0 = fldR (f b) 0 := fun b kb => ((congrArg (fun x => fldR x 0) (congrFun ef_24 b)).trans (fr_up (by rw [hfo_22]; rfl) b)).trans (hrr3_0 b kb)
  have hrr3_3 : ∀ b, kd b = 3 → fldR (f_24 b) 3 = fldR (f b) 3 := fun b kb => ((congrArg (fun x => fldR x 3) (congrFun ef_24 b)).trans (fr_up (by rw [hfo_22]; rfl) b)).trans (hrr3_3 b kb)
  have hT0 : drel kd 1 521 522 f_24 a_5 := by rw [ef_24]; exact hT0.up ko0 (by decide) (by decide) (by decide)
  have hfo_25 : f_24 o0 = .inr (3, [.ref a_2, .ref a_3, .ref a_4, .ref a_5, .ref a_6, .int v_7, .int p1, .int 1, .int v_10, .int v_11, .int v_12, .int v_13, .ref a_14, .ref a_15, .ref a_16, .int v_17, .ref a_18, .ref a_19]) := by rw [ef_24]; exact up_self
  refine lv_aload_n hx hb dX3_collect_10 rfl (lv_at hl 0 rfl) ?_
  refine lv_aload_n hx hb dX3_collect_11 rfl (lv_at hl 0 rfl) ?_
  refine tk_getP (D := (dC, dI)) (ci := 3) (v := .int p1) (C := RX3) (T := TX3) (N := 18) hx hb hU inlX3 hown hK hP mo0 hfo_25 rfl 6 (by decide) (hU _ wd_732) (fun _ h9 => h9) rfl dX3_collect_12 ?_
  have hcut_28 : ∀ (y_26 : Int32), ((-2147483648) ≤ y_26.toInt ∧ y_26.toInt ≤ 2147483647) → ∀ (H : Heap) (locs : List Loc), va_P (dC, dI) vwCl (va_pl L f_24) H → va_S (fun q => q ∈ L) s.heap H locs → ∀ (ls : Array Slot), lv_has ls 4 [(0, .ref o0), (1, .int p1), (2, .int p2), (3, .int p3)] → W p l e (headSpec (wU yX3_collect cX3_collect 4 none) { frames := 14, cells := 0, slots := 0, locals := 494 }).room s m [.ref o0, .int p1, .int p2, .int p3].toArray below meth c H locs 0 0 (MQ below (va_Qv (fun (f9 : Nat → va_E) => GI (okc cI cL cZ cR cG cH L kd) kd L f9 ∧ (∀ b, kd b ≠ 1 → kd b ≠ 3 → kd b ≠ 10 → kd b ≠ 517 → kd b ≠ 518 → kd b ≠ 519 → kd b ≠ 520 → kd b ≠ 521 → kd b ≠ 522 → kd b ≠ 523 → kd b ≠ 524 → kd b ≠ 525 → kd b ≠ 526 → kd b ≠ 527 → f9 b = f b) ∧ (∀ b, kd b = 1 → fldR (f9 b) 0 = fldR (f b) 0) ∧ (∀ b, kd b = 1 → fldR (f9 b) 1 = fldR (f b) 1) ∧ (∀ b, kd b = 3 → fldR (f9 b) 0 = fldR (f b) 0) ∧ (∀ b, kd b = 3 → fldR (f9 b) 3 = fldR (f b) 3) ∧ (∀ d9, fldR (f9 o0) 3 = some d9 → drel kd 1 521 522 f9 d9)) (qP (dC, dI) cI cL cZ cR cG cH L) (fun q => q ∈ L)) [.ref o0, .int p1, .int p2, .int p3].toArray s 0 0 (fun q => q ∈ L)) (F0 m 27 ls [.int y_26, .ref o0]) := by
    intro y_26 by_26 H locs hP hS ls hl
    refine tk_putP (D := (dC, dI)) (ci := 3) (v := .int y_26) (ty := .int) (C := RX3) (T := TX3) (N := 18) hx hb hU inlX3 tyX3 tyX3_ok nmX3 hown hK hP hD hS mo0 hfo_25 rfl 8 (by decide) (hU _ wd_734) (fun _ h9 => h9) rfl (by decide +kernel) rfl rfl (Nat.le_of_ble_eq_true rfl) dX3_collect_27 (fun H locs hP hD hS => ?_)
    obtain ⟨f_30, ef_30⟩ : ∃ y : Nat → va_E, y = va_up f_24 o0 (.inr (3, [.ref a_2, .ref a_3, .ref a_4, .ref a_5, .ref a_6, .int v_7, .int p1, .int 1, .int y_26, .int v_11, .int v_12, .int v_13, .ref a_14, .ref a_15, .ref a_16, .int v_17, .ref a_18, .ref a_19])) := ⟨_, rfl⟩
    have hP : va_P (dC, dI) vwCl (va_pl L f_30) H := by rw [ef_30]; exact hP
    have hD : va_D (fun q => q ∈ L) (va_pl L f_30) := by rw [ef_30]; exact hD
    have hG : GI (okc cI cL cZ cR cG cH L kd) kd L f_30 := by rw [ef_30]; exact hG.set o0 (mk_3 ko0 ⟨a_2, a_3, a_4, a_5, a_6, v_7, p1, 1, y_26, v_11, v_12, v_13, a_14, a_15, a_16, v_17, a_18, a_19, rfl, ⟨ma_2, ka_2⟩, ⟨ma_3, ka_3⟩, ⟨ma_4, ka_4⟩, ⟨ma_5, ka_5⟩, ⟨ma_6, ka_6⟩, (by constructor <;> omega), (by constructor <;> omega), (by decide), ⟨ma_14, ka_14⟩, ⟨ma_15, ka_15⟩, ⟨ma_16, ka_16⟩, (by constructor <;> omega), ⟨ma_18, ka_18⟩, ⟨ma_19, ka_19⟩⟩)
    have hfr0 : ∀ b, kd b ≠ 1 → kd b ≠ 3 → kd b ≠ 10 → kd b ≠ 517 → kd b ≠ 518 → kd b ≠ 519 → kd b ≠ 520 → kd b ≠ 521 → kd b ≠ 522 → kd b ≠ 523 → kd b ≠ 524 → kd b ≠ 525 → kd b ≠ 526 → kd b ≠ 527 → f_30 b = f b := fun b q1 q3 q10 q517 q518 q519 q520 q521 q522 q523 q524 q525 q526 q527 => (congrFun ef_30 b).trans ((up_ne (fun e9 => q3 (by rw [e9]; exact ko0))).trans (hfr0 b q1 q3 q10 q517 q518 q519 q520 q521 q522 q523 q524 q525 q526 q527))
    have hrr1_0 : ∀ b, kd b = 1 → fldR (f_30 b) 0 = fldR (f b) 0 := fun b kb => (congrArg (fun x => fldR x 0) ((congrFun ef_30 b).trans (up_ne (kd_ne ko0 kb (by decide))))).trans (hrr1_0 b kb)
    have hrr1_1 : ∀ b, kd b = 1 → fldR (f_30 b) 1 = fldR (f b) 1 := fun b kb => (congrArg (fun x => fldR x 1) ((congrFun ef_30 b).trans (up_ne (kd_ne ko0 kb (by decide))))).trans (hrr1_1 b kb)
    have hrr3_0 : ∀ b, kd b = 3 → fldR (f_30 b) 0 = fldR (f b) 0 := fun b kb => ((congrArg (fun x => fldR x 0) (congrFun ef_30 b)).trans (fr_up (by rw [hfo_25]; rfl) b)).trans (hrr3_0 b kb)
    have hrr3_3 : ∀ b, kd b = 3 → fldR (f_30 b) 3 = fldR (f b) 3 := fun b kb => ((congrArg (fun x => fldR x 3) (congrFun ef_30 b)).trans (fr_up (by rw [hfo_25]; rfl) b)).trans (hrr3_3 b kb)
    have hT0 : drel kd 1 521 522 f_30 a_5 := by rw [ef_30]; exact hT0.up ko0 (by decide) (by decide) (by decide)
    have hfo_31 : f_30 o0 = .inr (3, [.ref a_2, .ref a_3, .ref a_4, .ref a_5, .ref a_6, .int v_7, .int p1, .int 1, .int y_26, .int v_11, .int v_12, .int v_13, .ref a_14, .ref a_15, .ref a_16, .int v_17, .ref a_18, .ref a_19]) := by rw [ef_30]; exact up_self
    refine lv_aload_n hx hb dX3_collect_30 rfl (lv_at hl 0 rfl) ?_
    refine lv_iload_n hx hb dX3_collect_31 rfl (lv_at hl 2 rfl) ?_
    refine tk_putP (D := (dC, dI)) (ci := 3) (v := .int p2) (ty := .int) (C := RX3) (T := TX3) (N := 18) hx hb hU inlX3 tyX3 tyX3_ok nmX3 hown hK hP hD hS mo0 hfo_31 rfl 9 (by decide) (hU _ wd_735) (fun _ h9 => h9) rfl (by decide +kernel) rfl rfl (Nat.le_of_ble_eq_true rfl) dX3_collect_32 (fun H locs hP hD hS => ?_)
    obtain ⟨f_33, ef_33⟩ : ∃ y : Nat → va_E, y = va_up f_30 o0 (.inr (3, [.ref a_2, .ref a_3, .ref a_4, .ref a_5, .ref a_6, .int v_7, .int p1, .int 1, .int y_26, .int p2, .int v_12, .int v_13, .ref a_14, .ref a_15, .ref a_16, .int v_17, .ref a_18, .ref a_19])) := ⟨_, rfl⟩
    have hP : va_P (dC, dI) vwCl (va_pl L f_33) H := by rw [ef_33]; exact hP
    have hD : va_D (fun q => q ∈ L) (va_pl L f_33) := by rw [ef_33]; exact hD
    have hG : GI (okc cI cL cZ cR cG cH L kd) kd L f_33 := by rw [ef_33]; exact hG.set o0 (mk_3 ko0 ⟨a_2, a_3, a_4, a_5, a_6, v_7, p1, 1, y_26, p2, v_12, v_13, a_14, a_15, a_16, v_17, a_18, a_19, rfl, ⟨ma_2, ka_2⟩, ⟨ma_3, ka_3⟩, ⟨ma_4, ka_4⟩, ⟨ma_5, ka_5⟩, ⟨ma_6, ka_6⟩, (by constructor <;> omega), (by constructor <;> omega), (by decide), ⟨ma_14, ka_14⟩, ⟨ma_15, ka_15⟩, ⟨ma_16, ka_16⟩, (by constructor <;> omega), ⟨ma_18, ka_18⟩, ⟨ma_19, ka_19⟩⟩)
    have hfr0 : ∀ b, kd b ≠ 1 → kd b ≠ 3 → kd b ≠ 10 → kd b ≠ 517 → kd b ≠ 518 → kd b ≠ 519 → kd b ≠ 520 → kd b ≠ 521 → kd b ≠ 522 → kd b ≠ 523 → kd b ≠ 524 → kd b ≠ 525 → kd b ≠ 526 → kd b ≠ 527 → f_33 b = f b := fun b q1 q3 q10 q517 q518 q519 q520 q521 q522 q523 q524 q525 q526 q527 => (congrFun ef_33 b).trans ((up_ne (fun e9 => q3 (by rw [e9]; exact ko0))).trans (hfr0 b q1 q3 q10 q517 q518 q519 q520 q521 q522 q523 q524 q525 q526 q527))
    have hrr1_0 : ∀ b, kd b = 1 → fldR (f_33 b) 0 = fldR (f b) 0 := fun b kb => (congrArg (fun x => fldR x 0) ((congrFun ef_33 b).trans (up_ne (kd_ne ko0 kb (by decide))))).trans (hrr1_0 b kb)
    have hrr1_1 : ∀ b, kd b = 1 → fldR (f_33 b) 1 = fldR (f b) 1 := fun b kb => (congrArg (fun x => fldR x 1) ((congrFun ef_33 b).trans (up_ne (kd_ne ko0 kb (by decide))))).trans (hrr1_1 b kb)
    have hrr3_0 : ∀ b, kd b = 3 → fldR (f_33 b) 0 = fldR (f b) 0 := fun b kb => ((congrArg (fun x => fldR x 0) (congrFun ef_33 b)).trans (fr_up (by rw [hfo_31]; rfl) b)).trans (hrr3_0 b kb)
    have hrr3_3 : ∀ b, kd b = 3 → fldR (f_33 b) 3 = fldR (f b) 3 := fun b kb => ((congrArg (fun x => fldR x 3) (congrFun ef_33 b)).trans (fr_up (by rw [hfo_31]; rfl) b)).trans (hrr3_3 b kb)
    have hT0 : drel kd 1 521 522 f_33 a_5 := by rw [ef_33]; exact hT0.up ko0 (by decide) (by decide) (by decide)
    have hfo_34 : f_33 o0 = .inr (3, [.ref a_2, .ref a_3, .ref a_4, .ref a_5, .ref a_6, .int v_7, .int p1, .int 1, .int y_26, .int p2, .int v_12, .int v_13, .ref a_14, .ref a_15, .ref a_16, .int v_17, .ref a_18, .ref a_19]) := by rw [ef_33]; exact up_self
    refine lv_aload_n hx hb dX3_collect_35 rfl (lv_at hl 0 rfl) ?_
    refine lv_iload_n hx hb dX3_collect_36 rfl (lv_at hl 2 rfl) ?_
    refine tk_putP (D := (dC, dI)) (ci := 3) (v := .int p2) (ty := .int) (C := RX3) (T := TX3) (N := 18) hx hb hU inlX3 tyX3 tyX3_ok nmX3 hown hK hP hD hS mo0 hfo_34 rfl 10 (by decide) (hU _ wd_736) (fun _ h9 => h9) rfl (by decide +kernel) rfl rfl (Nat.le_of_ble_eq_true rfl) dX3_collect_37 (fun H locs hP hD hS => ?_)
    obtain ⟨f_36, ef_36⟩ : ∃ y : Nat → va_E, y = va_up f_33 o0 (.inr (3, [.ref a_2, .ref a_3, .ref a_4, .ref a_5, .ref a_6, .int v_7, .int p1, .int 1, .int y_26, .int p2, .int p2, .int v_13, .ref a_14, .ref a_15, .ref a_16, .int v_17, .ref a_18, .ref a_19])) := ⟨_, rfl⟩
    have hP : va_P (dC, dI) vwCl (va_pl L f_36) H := by rw [ef_36]; exact hP
    have hD : va_D (fun q => q ∈ L) (va_pl L f_36) := by rw [ef_36]; exact hD
    have hG : GI (okc cI cL cZ cR cG cH L kd) kd L f_36 := by rw [ef_36]; exact hG.set o0 (mk_3 ko0 ⟨a_2, a_3, a_4, a_5, a_6, v_7, p1, 1, y_26, p2, p2, v_13, a_14, a_15, a_16, v_17, a_18, a_19, rfl, ⟨ma_2, ka_2⟩, ⟨ma_3, ka_3⟩, ⟨ma_4, ka_4⟩, ⟨ma_5, ka_5⟩, ⟨ma_6, ka_6⟩, (by constructor <;> omega), (by constructor <;> omega), (by decide), ⟨ma_14, ka_14⟩, ⟨ma_15, ka_15⟩, ⟨ma_16, ka_16⟩, (by constructor <;> omega), ⟨ma_18, ka_18⟩, ⟨ma_19, ka_19⟩⟩)
    have hfr0 : ∀ b, kd b ≠ 1 → kd b ≠ 3 → kd b ≠ 10 → kd b ≠ 517 → kd b ≠ 518 → kd b ≠ 519 → kd b ≠ 520 → kd b ≠ 521 → kd b ≠ 522 → kd b ≠ 523 → kd b ≠ 524 → kd b ≠ 525 → kd b ≠ 526 → kd b ≠ 527 → f_36 b = f b := fun b q1 q3 q10 q517 q518 q519 q520 q521 q522 q523 q524 q525 q526 q527 => (congrFun ef_36 b).trans ((up_ne (fun e9 => q3 (by rw [e9]; exact ko0))).trans (hfr0 b q1 q3 q10 q517 q518 q519 q520 q521 q522 q523 q524 q525 q526 q527))
    have hrr1_0 : ∀ b, kd b = 1 → fldR (f_36 b) 0 = fldR (f b) 0 := fun b kb => (congrArg (fun x => fldR x 0) ((congrFun ef_36 b).trans (up_ne (kd_ne ko0 kb (by decide))))).trans (hrr1_0 b kb)
    have hrr1_1 : ∀ b, kd b = 1 → fldR (f_36 b) 1 = fldR (f b) 1 := fun b kb => (congrArg (fun x => fldR x 1) ((congrFun ef_36 b).trans (up_ne (kd_ne ko0 kb (by decide))))).trans (hrr1_1 b kb)
    have hrr3_0 : ∀ b, kd b = 3 → fldR (f_36 b) 0 = fldR (f b) 0 := fun b kb => ((congrArg (fun x => fldR x 0) (congrFun ef_36 b)).trans (fr_up (by rw [hfo_34]; rfl) b)).trans (hrr3_0 b kb)
    have hrr3_3 : ∀ b, kd b = 3 → fldR (f_36 b) 3 = fldR (f b) 3 := fun b kb => ((congrArg (fun x => fldR x 3) (congrFun ef_36 b)).trans (fr_up (by rw [hfo_34]; rfl) b)).trans (hrr3_3 b kb)
    have hT0 : drel kd 1 521 522 f_36 a_5 := by rw [ef_36]; exact hT0.up ko0 (by decide) (by decide) (by decide)
    have hfo_37 : f_36 o0 = .inr (3, [.ref a_2, .ref a_3, .ref a_4, .ref a_5, .ref a_6, .int v_7, .int p1, .int 1, .int y_26, .int p2, .int p2, .int v_13, .ref a_14, .ref a_15, .ref a_16, .int v_17, .ref a_18, .ref a_19]) := by rw [ef_36]; exact up_self
    refine lv_aload_n hx hb dX3_collect_40 rfl (lv_at hl 0 rfl) ?_
    refine lv_iconst (v := (-1)) hx hb dX3_collect_41 (by decide) ?_
    refine tk_putP (D := (dC, dI)) (ci := 3) (v := .int (-1)) (ty := .int) (C := RX3) (T := TX3) (N := 18) hx hb hU inlX3 tyX3 tyX3_ok nmX3 hown hK hP hD hS mo0 hfo_37 rfl 11 (by decide) (hU _ wd_62) (fun _ h9 => h9) rfl (by decide +kernel) rfl rfl (Nat.le_of_ble_eq_true rfl) dX3_collect_42 (fun H locs hP hD hS => ?_)
    obtain ⟨f_39, ef_39⟩ : ∃ y : Nat → va_E, y = va_up f_36 o0 (.inr (3, [.ref a_2, .ref a_3, .ref a_4, .ref a_5, .ref a_6, .int v_7, .int p1, .int 1, .int y_26, .int p2, .int p2, .int (-1), .ref a_14, .ref a_15, .ref a_16, .int v_17, .ref a_18, .ref a_19])) := ⟨_, rfl⟩
    have hP : va_P (dC, dI) vwCl (va_pl L f_39) H := by rw [ef_39]; exact hP
    have hD : va_D (fun q => q ∈ L) (va_pl L f_39) := by rw [ef_39]; exact hD
    have hG : GI (okc cI cL cZ cR cG cH L kd) kd L f_39 := by rw [ef_39]; exact hG.set o0 (mk_3 ko0 ⟨a_2, a_3, a_4, a_5, a_6, v_7, p1, 1, y_26, p2, p2, (-1), a_14, a_15, a_16, v_17, a_18, a_19, rfl, ⟨ma_2, ka_2⟩, ⟨ma_3, ka_3⟩, ⟨ma_4, ka_4⟩, ⟨ma_5, ka_5⟩, ⟨ma_6, ka_6⟩, (by constructor <;> omega), (by constructor <;> omega), (by decide), ⟨ma_14, ka_14⟩, ⟨ma_15, ka_15⟩, ⟨ma_16, ka_16⟩, (by constructor <;> omega), ⟨ma_18, ka_18⟩, ⟨ma_19, ka_19⟩⟩)
    have hfr0 : ∀ b, kd b ≠ 1 → kd b ≠ 3 → kd b ≠ 10 → kd b ≠ 517 → kd b ≠ 518 → kd b ≠ 519 → kd b ≠ 520 → kd b ≠ 521 → kd b ≠ 522 → kd b ≠ 523 → kd b ≠ 524 → kd b ≠ 525 → kd b ≠ 526 → kd b ≠ 527 → f_39 b = f b := fun b q1 q3 q10 q517 q518 q519 q520 q521 q522 q523 q524 q525 q526 q527 => (congrFun ef_39 b).trans ((up_ne (fun e9 => q3 (by rw [e9]; exact ko0))).trans (hfr0 b q1 q3 q10 q517 q518 q519 q520 q521 q522 q523 q524 q525 q526 q527))
    have hrr1_0 : ∀ b, kd b = 1 → fldR (f_39 b) 0 = fldR (f b) 0 := fun b kb => (congrArg (fun x => fldR x 0) ((congrFun ef_39 b).trans (up_ne (kd_ne ko0 kb (by decide))))).trans (hrr1_0 b kb)
    have hrr1_1 : ∀ b, kd b = 1 → fldR (f_39 b) 1 = fldR (f b) 1 := fun b kb => (congrArg (fun x => fldR x 1) ((congrFun ef_39 b).trans (up_ne (kd_ne ko0 kb (by decide))))).trans (hrr1_1 b kb)
    have hrr3_0 : ∀ b, kd b = 3 → fldR (f_39 b) 0 = fldR (f b) 0 := fun b kb => ((congrArg (fun x => fldR x 0) (congrFun ef_39 b)).trans (fr_up (by rw [hfo_37]; rfl) b)).trans (hrr3_0 b kb)
    have hrr3_3 : ∀ b, kd b = 3 → fldR (f_39 b) 3 = fldR (f b) 3 := fun b kb => ((congrArg (fun x => fldR x 3) (congrFun ef_39 b)).trans (fr_up (by rw [hfo_37]; rfl) b)).trans (hrr3_3 b kb)
    have hT0 : drel kd 1 521 522 f_39 a_5 := by rw [ef_39]; exact hT0.up ko0 (by decide) (by decide) (by decide)
    have hfo_40 : f_39 o0 = .inr (3, [.ref a_2, .ref a_3, .ref a_4, .ref a_5, .ref a_6, .int v_7, .int p1, .int 1, .int y_26, .int p2, .int p2, .int (-1), .ref a_14, .ref a_15, .ref a_16, .int v_17, .ref a_18, .ref a_19]) := by rw [ef_39]; exact up_self
    refine lv_aload_n hx hb dX3_collect_45 rfl (lv_at hl 0 rfl) ?_
    refine tk_getP (D := (dC, dI)) (ci := 3) (v := .ref a_5) (C := RX3) (T := TX3) (N := 18) hx hb hU inlX3 hown hK hP mo0 hfo_40 rfl 3 (by decide) (hU _ wd_60) (fun _ h9 => h9) rfl dX3_collect_46 ?_
    obtain ⟨a_42, a_43, a_44, v_45, v_46, v_47, hfo_41, ⟨ma_42, ka_42⟩, ⟨ma_43, ka_43⟩, ⟨ma_44, ka_44⟩, bv_45, bv_46, bv_47⟩ := un_1 (hG _ ma_5) ka_5
    refine tk_VvP (As := []) (rest := []) (n := 0) hx hb hml hown hU hN hZ (s_X1_clear_k1 l (dC, dI) cI cL cZ cR cG cH Z kd L f_39 hG a_5 ma_5 ka_5) wd_748 wd_749 wd_750 wd_59 wd_751 (by decide +kernel) ⟨Nat.le_of_ble_eq_true rfl, Nat.le_of_ble_eq_true rfl⟩ hK hP hD hS ma_5 hfo_41 1 rfl rfl rfl hl.1 rfl (Nat.le_of_ble_eq_true rfl) dX3_collect_49 ⟨Nat.le_of_ble_eq_true rfl, Nat.le_of_ble_eq_true rfl⟩ (fun f_49 H locs hw hP hD hS => ?_)
    obtain ⟨hG, hkc_50, hrc_51, hrc_52, hTc_53⟩ := hw
    have hfo_55 : f_49 o0 = .inr (3, [.ref a_2, .ref a_3, .ref a_4, .ref a_5, .ref a_6, .int v_7, .int p1, .int 1, .int y_26, .int p2, .int p2, .int (-1), .ref a_14, .ref a_15, .ref a_16, .int v_17, .ref a_18, .ref a_19]) := by rw [hkc_50 o0 (by rw [ko0]; decide) (by rw [ko0]; decide)]; exact hfo_40
    have hfr0 : ∀ b, kd b ≠ 1 → kd b ≠ 3 → kd b ≠ 10 → kd b ≠ 517 → kd b ≠ 518 → kd b ≠ 519 → kd b ≠ 520 → kd b ≠ 521 → kd b ≠ 522 → kd b ≠ 523 → kd b ≠ 524 → kd b ≠ 525 → kd b ≠ 526 → kd b ≠ 527 → f_49 b = f b := fun b q1 q3 q10 q517 q518 q519 q520 q521 q522 q523 q524 q525 q526 q527 => (hkc_50 b q1 q521).trans (hfr0 b q1 q3 q10 q517 q518 q519 q520 q521 q522 q523 q524 q525 q526 q527)
    have hrr1_0 : ∀ b, kd b = 1 → fldR (f_49 b) 0 = fldR (f b) 0 := fun b kb => (hrc_51 b kb).trans (hrr1_0 b kb)
    have hrr1_1 : ∀ b, kd b = 1 → fldR (f_49 b) 1 = fldR (f b) 1 := fun b kb => (hrc_52 b kb).trans (hrr1_1 b kb)
    have hrr3_0 : ∀ b, kd b = 3 → fldR (f_49 b) 0 = fldR (f b) 0 := fun b kb => (congrArg (fun x => fldR x 0) (hkc_50 b (by rw [kb]; decide) (by rw [kb]; decide))).trans (hrr3_0 b kb)
    have hrr3_3 : ∀ b, kd b = 3 → fldR (f_49 b) 3 = fldR (f b) 3 := fun b kb => (congrArg (fun x => fldR x 3) (hkc_50 b (by rw [kb]; decide) (by rw [kb]; decide))).trans (hrr3_3 b kb)
    obtain ⟨a_57, a_58, a_59, v_60, v_61, v_62, hfo_56, ⟨ma_57, ka_57⟩, ⟨ma_58, ka_58⟩, ⟨ma_59, ka_59⟩, bv_60, bv_61, bv_62⟩ := un_1 (hG _ ma_5) ka_5
    obtain rfl : a_42 = a_57 := by have hk9 := hrc_51 a_5 ka_5; rw [hfo_56, hfo_41] at hk9; exact (Option.some.inj hk9).symm
    obtain rfl : a_43 = a_58 := by have hk9 := hrc_52 a_5 ka_5; rw [hfo_56, hfo_41] at hk9; exact (Option.some.inj hk9).symm
    refine lv_aload_n hx hb dX3_collect_52 rfl (lv_at hl 0 rfl) ?_
    refine tk_getP (D := (dC, dI)) (ci := 3) (v := .ref a_4) (C := RX3) (T := TX3) (N := 18) hx hb hU inlX3 hown hK hP mo0 hfo_55 rfl 2 (by decide) (hU _ wd_56) (fun _ h9 => h9) rfl dX3_collect_53 ?_
    refine lv_aload_n hx hb dX3_collect_56 rfl (lv_at hl 0 rfl) ?_
    refine tk_getP (D := (dC, dI)) (ci := 3) (v := .ref a_2) (C := RX3) (T := TX3) (N := 18) hx hb hU inlX3 hown hK hP mo0 hfo_55 rfl 0 (by decide) (hU _ wd_48) (fun _ h9 => h9) rfl dX3_collect_57 ?_
    obtain ⟨a_64, a_65, a_66, a_67, a_68, hfo_63, ⟨ma_64, ka_64⟩, ⟨ma_65, ka_65⟩, ⟨ma_66, ka_66⟩, ⟨ma_67, ka_67⟩, ⟨ma_68, ka_68⟩⟩ := un_8 (hG _ ma_4) ka_4
    refine tk_VvP (As := [.ref a_2]) (rest := []) (n := 1) hx hb hml hown hU hN hZ (s_X8_begin_k8_k7 l (dC, dI) cI cL cZ cR cG cH Z kd L f_49 hG a_4 ma_4 ka_4 a_2 ma_2 ka_2) wd_755 wd_756 wd_757 wd_55 wd_758 (by decide +kernel) ⟨Nat.le_of_ble_eq_true rfl, Nat.le_of_ble_eq_true rfl⟩ hK hP hD hS ma_4 hfo_63 8 rfl rfl rfl hl.1 rfl (Nat.le_of_ble_eq_true rfl) dX3_collect_60 ⟨Nat.le_of_ble_eq_true rfl, Nat.le_of_ble_eq_true rfl⟩ (fun f_70 H locs hw hP hD hS => ?_)
    obtain ⟨hG, hkc_71⟩ := hw
    have hfo_73 : f_70 o0 = .inr (3, [.ref a_2, .ref a_3, .ref a_4, .ref a_5, .ref a_6, .int v_7, .int p1, .int 1, .int y_26, .int p2, .int p2, .int (-1), .ref a_14, .ref a_15, .ref a_16, .int v_17, .ref a_18, .ref a_19]) := by rw [hkc_71 o0 (by rw [ko0]; decide) (by rw [ko0]; decide) (by rw [ko0]; decide)]; exact hfo_55
    have hfo_74 : f_70 a_5 = .inr (1, [.ref a_42, .ref a_43, .ref a_59, .int v_60, .int v_61, .int v_62]) := by rw [hkc_71 a_5 (by rw [ka_5]; decide) (by rw [ka_5]; decide) (by rw [ka_5]; decide)]; exact hfo_56
    have hfo_75 : f_70 a_4 = .inr (8, [.ref a_64, .ref a_65, .ref a_66, .ref a_67, .ref a_68]) := by rw [hkc_71 a_4 (by rw [ka_4]; decide) (by rw [ka_4]; decide) (by rw [ka_4]; decide)]; exact hfo_63
    have hfr0 : ∀ b, kd b ≠ 1 → kd b ≠ 3 → kd b ≠ 10 → kd b ≠ 517 → kd b ≠ 518 → kd b ≠ 519 → kd b ≠ 520 → kd b ≠ 521 → kd b ≠ 522 → kd b ≠ 523 → kd b ≠ 524 → kd b ≠ 525 → kd b ≠ 526 → kd b ≠ 527 → f_70 b = f b := fun b q1 q3 q10 q517 q518 q519 q520 q521 q522 q523 q524 q525 q526 q527 => (hkc_71 b q517 q518 q520).trans (hfr0 b q1 q3 q10 q517 q518 q519 q520 q521 q522 q523 q524 q525 q526 q527)
    have hrr1_0 : ∀ b, kd b = 1 → fldR (f_70 b) 0 = fldR (f b) 0 := fun b kb => (congrArg (fun x => fldR x 0) (hkc_71 b (by rw [kb]; decide) (by rw [kb]; decide) (by rw [kb]; decide))).trans (hrr1_0 b kb)
    have hrr1_1 : ∀ b, kd b = 1 → fldR (f_70 b) 1 = fldR (f b) 1 := fun b kb => (congrArg (fun x => fldR x 1) (hkc_71 b (by rw [kb]; decide) (by rw [kb]; decide) (by rw [kb]; decide))).trans (hrr1_1 b kb)
    have hrr3_0 : ∀ b, kd b = 3 → fldR (f_70 b) 0 = fldR (f b) 0 := fun b kb => (congrArg (fun x => fldR x 0) (hkc_71 b (by rw [kb]; decide) (by rw [kb]; decide) (by rw [kb]; decide))).trans (hrr3_0 b kb)
    have hrr3_3 : ∀ b, kd b = 3 → fldR (f_70 b) 3 = fldR (f b) 3 := fun b kb => (congrArg (fun x => fldR x 3) (hkc_71 b (by rw [kb]; decide) (by rw [kb]; decide) (by rw [kb]; decide))).trans (hrr3_3 b kb)
    have hTc_53 : drel kd 1 521 522 f_70 a_5 := hTc_53.keep (fun b q => congrArg (fun x => fldI x 5) (hkc_71 b (by rw [q]; decide) (by rw [q]; decide) (by rw [q]; decide))) (fun b q => congrArg (fun x => fldR x 0) (hkc_71 b (by rw [q]; decide) (by rw [q]; decide) (by rw [q]; decide))) (fun b q => congrArg (fun x => fldR x 1) (hkc_71 b (by rw [q]; decide) (by rw [q]; decide) (by rw [q]; decide))) (fun b q => hkc_71 b (by rw [q]; decide) (by rw [q]; decide) (by rw [q]; decide)) (fun b q => hkc_71 b (by rw [q]; decide) (by rw [q]; decide) (by rw [q]; decide))
    refine lv_aload_n hx hb dX3_collect_63 rfl (lv_at hl 0 rfl) ?_
    refine lv_iconst (v := 0) hx hb dX3_collect_64 (by decide) ?_
    refine lv_iconst (v := 0) hx hb dX3_collect_65 (by decide) ?_
    refine lv_iload_n hx hb dX3_collect_66 rfl (lv_at hl 3 rfl) ?_
    refine lv_iconst (v := 0) hx hb dX3_collect_67 (by decide) ?_
    refine lv_iconst (v := 0) hx hb dX3_collect_68 (by decide) ?_
    refine tk_ViP (As := [.int 0, .int 0, .int p3, .int 0, .int 0]) (rest := []) (n := 5) hx hb hml hown hU hN hZ (s_X3_descend_k3 l (dC, dI) cI cL cZ cR cG cH Z kd L 10 f_70 hG o0 mo0 ko0 0 (by decide) 0 (by decide) p3 0 (by decide) 0 (by decide) (by (try rw [ti_0]) <;> omega) (fun d9 h9 => by rw [hfo_73] at h9; obtain rfl := Option.some.inj h9; exact hTc_53) (by have h3 : ((0 : Int32)).toInt = 0 := rfl; rw [h3]; exact capR.zero) (by (try rw [ti_0]) <;> omega)) wd_762 wd_763 wd_764 wd_16 wd_765 (by decide +kernel) ⟨Nat.le_of_ble_eq_true rfl, Nat.le_of_ble_eq_true rfl⟩ hK hP hD hS mo0 hfo_73 3 rfl rfl rfl hl.1 rfl (Nat.le_of_ble_eq_true rfl) dX3_collect_69 ⟨Nat.le_of_ble_eq_true rfl, Nat.le_of_ble_eq_true rfl⟩ (fun x_76 f_77 H locs hw hP hD hS => ?_)
    obtain ⟨hG, bx_76, hkc_78, hrc_79, hrc_80, hrc_81, hrc_82, hTc_83⟩ := hw
    have hfo_85 : f_77 a_4 = .inr (8, [.ref a_64, .ref a_65, .ref a_66, .ref a_67, .ref a_68]) := by rw [hkc_78 a_4 (by rw [ka_4]; decide) (by rw [ka_4]; decide) (by rw [ka_4]; decide) (by rw [ka_4]; decide) (by rw [ka_4]; decide) (by rw [ka_4]; decide) (by rw [ka_4]; decide) (by rw [ka_4]; decide) (by rw [ka_4]; decide) (by rw [ka_4]; decide) (by rw [ka_4]; decide) (by rw [ka_4]; decide) (by rw [ka_4]; decide) (by rw [ka_4]; decide)]; exact hfo_75
    have hfr0 : ∀ b, kd b ≠ 1 → kd b ≠ 3 → kd b ≠ 10 → kd b ≠ 517 → kd b ≠ 518 → kd b ≠ 519 → kd b ≠ 520 → kd b ≠ 521 → kd b ≠ 522 → kd b ≠ 523 → kd b ≠ 524 → kd b ≠ 525 → kd b ≠ 526 → kd b ≠ 527 → f_77 b = f b := fun b q1 q3 q10 q517 q518 q519 q520 q521 q522 q523 q524 q525 q526 q527 => (hkc_78 b q1 q3 q10 q517 q518 q519 q520 q521 q522 q523 q524 q525 q526 q527).trans (hfr0 b q1 q3 q10 q517 q518 q519 q520 q521 q522 q523 q524 q525 q526 q527)
    have hrr1_0 : ∀ b, kd b = 1 → fldR (f_77 b) 0 = fldR (f b) 0 := fun b kb => (hrc_79 b kb).trans (hrr1_0 b kb)
    have hrr1_1 : ∀ b, kd b = 1 → fldR (f_77 b) 1 = fldR (f b) 1 := fun b kb => (hrc_80 b kb).trans (hrr1_1 b kb)
    have hrr3_0 : ∀ b, kd b = 3 → fldR (f_77 b) 0 = fldR (f b) 0 := fun b kb => (hrc_81 b kb).trans (hrr3_0 b kb)
    have hrr3_3 : ∀ b, kd b = 3 → fldR (f_77 b) 3 = fldR (f b) 3 := fun b kb => (hrc_82 b kb).trans (hrr3_3 b kb)
    obtain ⟨a_87, a_88, a_89, a_90, a_91, v_92, v_93, v_94, v_95, v_96, v_97, v_98, a_99, a_100, a_101, v_102, a_103, a_104, hfo_86, ⟨ma_87, ka_87⟩, ⟨ma_88, ka_88⟩, ⟨ma_89, ka_89⟩, ⟨ma_90, ka_90⟩, ⟨ma_91, ka_91⟩, bv_92, bv_93, bv_94, ⟨ma_99, ka_99⟩, ⟨ma_100, ka_100⟩, ⟨ma_101, ka_101⟩, bv_102, ⟨ma_103, ka_103⟩, ⟨ma_104, ka_104⟩⟩ := un_3 (hG _ mo0) ko0
    have bv_95 : ((-2147483648) ≤ v_95.toInt ∧ v_95.toInt ≤ 2147483647) := ⟨i32_lo _, i32_hi _⟩
    have bv_96 : ((-2147483648) ≤ v_96.toInt ∧ v_96.toInt ≤ 2147483647) := ⟨i32_lo _, i32_hi _⟩
    have bv_97 : ((-2147483648) ≤ v_97.toInt ∧ v_97.toInt ≤ 2147483647) := ⟨i32_lo _, i32_hi _⟩
    have bv_98 : ((-2147483648) ≤ v_98.toInt ∧ v_98.toInt ≤ 2147483647) := ⟨i32_lo _, i32_hi _⟩
    obtain rfl : a_2 = a_87 := by have hk9 := hrr3_0 o0 ko0; rw [hfo_86, hfo_1] at hk9; exact (Option.some.inj hk9).symm
    obtain rfl : a_5 = a_90 := by have hk9 := hrr3_3 o0 ko0; rw [hfo_86, hfo_1] at hk9; exact (Option.some.inj hk9).symm
    obtain ⟨a_106, a_107, a_108, v_109, v_110, v_111, hfo_105, ⟨ma_106, ka_106⟩, ⟨ma_107, ka_107⟩, ⟨ma_108, ka_108⟩, bv_109, bv_110, bv_111⟩ := un_1 (hG _ ma_5) ka_5
    obtain rfl : a_42 = a_106 := by have hk9 := hrc_79 a_5 ka_5; rw [hfo_105, hfo_74] at hk9; exact (Option.some.inj hk9).symm
    obtain rfl : a_43 = a_107 := by have hk9 := hrc_80 a_5 ka_5; rw [hfo_105, hfo_74] at hk9; exact (Option.some.inj hk9).symm
    have hT_112 := hTc_83 a_5 (by rw [hfo_86]; rfl)
    refine lv_pop hx hb dX3_collect_72 rfl ?_
    exact W.vret hx hb hr (fun t ht hW => ⟨⟨f_77, rfl, ⟨hG, hfr0, hrr1_0, hrr1_1, hrr3_0, hrr3_3, (fun d9 h9 => by rw [hfo_86] at h9; obtain rfl := Option.some.inj h9; exact hT_112)⟩, by rw [ht]; exact hP, va_K.moved hW.alike hK, pl_in hD⟩, hS.F ht⟩) hS.2.2 dX3_collect_73
  refine lv_if_eq (tgt := 26) hx hb dX3_collect_15 (by decide) (fun c_113 => ?_) (fun c_113 => ?_)
  · skip
    rw [← Int32.toInt_inj, ti_0] at c_113
    refine lv_iload_n hx hb dX3_collect_26 rfl (lv_at hl 2 rfl) ?_
    exact hcut_28 p2 (by constructor <;> omega) _ _ hP hS ls (lv_sub hl [0, 1, 2, 3] rfl)
  · skip
    rw [← Int32.toInt_inj, ti_0] at c_113
    refine lv_aload_n hx hb dX3_collect_18 rfl (lv_at hl 0 rfl) ?_
    refine lv_iload_n hx hb dX3_collect_19 rfl (lv_at hl 2 rfl) ?_
    refine tk_ViP (As := [.int p2]) (rest := [.ref o0]) (n := 1) hx hb hml hown hU hN hZ (s_X3_breakable_k3 l (dC, dI) cI cL cZ cR cG cH Z kd L f_24 hG o0 mo0 ko0 p2) wd_737 wd_738 wd_739 wd_16 wd_740 (by decide +kernel) ⟨Nat.le_of_ble_eq_true rfl, Nat.le_of_ble_eq_true rfl⟩ hK hP hD hS mo0 hfo_25 3 rfl rfl rfl hl.1 rfl (Nat.le_of_ble_eq_true rfl) dX3_collect_20 ⟨Nat.le_of_ble_eq_true rfl, Nat.le_of_ble_eq_true rfl⟩ (fun x_114 f_115 H locs hw hP hD hS => ?_)
    obtain ⟨rfl, bx_114⟩ := hw
    refine lv_goto (tgt := 27) hx hb dX3_collect_23 (by decide) ?_
    exact hcut_28 x_114 (by constructor <;> omega) _ _ hP hS ls (lv_sub hl [0, 1, 2, 3] rfl)
set_option maxHeartbeats 8000000 in
set_option maxRecDepth 100000 in
theorem s_X3_list_k3 (l : Launch) (D : va_G) (cI cL cZ cR cG cH : ClassId) (Z : zT) (kd : Nat → Nat) (L : List Nat) (f : Nat → va_E) (hG : GI (okc cI cL cZ cR cG cH L kd) kd L f) (o0 : Nat) (mo0 : o0 ∈ L) (ko0 : kd o0 = 3) (p1 : Int32) (p2 : Int32) (p3 : Int32) (p4 : Int32) (hxtr0 : ∀ d9, fldR (f o0) 3 = some d9 → drel kd 1 521 522 f d9) : mPV l D cI cL cZ cR cG cH Z yX3_list cX3_list 5 none 14 494 [.ref o0, .int p1, .int p2, .int p3, .int p4] L f (fun (f9 : Nat → va_E) => GI (okc cI cL cZ cR cG cH L kd) kd L f9 ∧ (∀ b, kd b ≠ 1 → kd b ≠ 3 → kd b ≠ 10 → kd b ≠ 517 → kd b ≠ 518 → kd b ≠ 519 → kd b ≠ 520 → kd b ≠ 521 → kd b ≠ 522 → kd b ≠ 523 → kd b ≠ 524 → kd b ≠ 525 → kd b ≠ 526 → kd b ≠ 527 → f9 b = f b) ∧ (∀ b, kd b = 1 → fldR (f9 b) 0 = fldR (f b) 0) ∧ (∀ b, kd b = 1 → fldR (f9 b) 1 = fldR (f b) 1) ∧ (∀ b, kd b = 3 → fldR (f9 b) 0 = fldR (f b) 0) ∧ (∀ b, kd b = 3 → fldR (f9 b) 3 = fldR (f b) 3) ∧ (∀ d9, fldR (f9 o0) 3 = some d9 → drel kd 1 521 522 f9 d9)) := by
  obtain ⟨dC, dI⟩ := D
  refine Met.ofW (cc := cX3_list) (maxL := 5) (ret := none) (by decide) rfl ?_
  intro p e s m args below meth c s₁ B hml hv
  obtain ⟨rfl, hP, hK, hD0, hN, hZ⟩ := hv
  have hx := B.exec
  have hb := B.bytes
  have hr := B.returns
  have hU : ∀ w ∈ wsU, w.before _ s = true := fun w h => atoms_spec (ws := wU yX3_list cX3_list 5 none) B.pre w (List.mem_cons_of_mem _ h)
  have hown : s.vm.findClass RX3 = some m.cls := findClass_of_methodNamed B.named
  have hlocks := B.notSynchronized
  have hD := pl_in hD0
  have hS : va_S (fun q => q ∈ L) s.heap s.heap [] := va_S.rf
  have hl := lv_entry ([.ref o0, .int p1, .int p2, .int p3, .int p4]) (n := 5) (Nat.le_of_ble_eq_true rfl)
  rw [lg_entry_eq]
  generalize (lg_sl ([.ref o0, .int p1, .int p2, .int p3, .int p4]) ++ List.replicate (5 - (lg_sl ([.ref o0, .int p1, .int p2, .int p3, .int p4])).length) Slot.unset).toArray = ls at hl ⊢
  have hl : lv_has ls 5 [(0, .ref o0), (1, .int p1), (2, .int p2), (3, .int p3), (4, .int p4)] := hl
  have bp1 : ((-2147483648) ≤ p1.toInt ∧ p1.toInt ≤ 2147483647) := ⟨i32_lo _, i32_hi _⟩
  have bp2 : ((-2147483648) ≤ p2.toInt ∧ p2.toInt ≤ 2147483647) := ⟨i32_lo _, i32_hi _⟩
  have bp3 : ((-2147483648) ≤ p3.toInt ∧ p3.toInt ≤ 2147483647) := ⟨i32_lo _, i32_hi _⟩
  have bp4 : ((-2147483648) ≤ p4.toInt ∧ p4.toInt ≤ 2147483647) := ⟨i32_lo _, i32_hi _⟩
  have hfr0 : ∀ b, kd b ≠ 1 → kd b ≠ 3 → kd b ≠ 10 → kd b ≠ 517 → kd b ≠ 518 → kd b ≠ 519 → kd b ≠ 520 → kd b ≠ 521 → kd b ≠ 522 → kd b ≠ 523 → kd b ≠ 524 → kd b ≠ 525 → kd b ≠ 526 → kd b ≠ 527 → f b = f b := fun _ _ _ _ _ _ _ _ _ _ _ _ _ _ _ => rfl
  have hrr1_0 : ∀ b, kd b = 1 → fldR (f b) 0 = fldR (f b) 0 := fun _ _ => rfl
  have hrr1_1 : ∀ b, kd b = 1 → fldR (f b) 1 = fldR (f b) 1 := fun _ _ => rfl
  have hrr3_0 : ∀ b, kd b = 3 → fldR (f b) 0 = fldR (f b) 0 := fun _ _ => rfl
  have hrr3_3 : ∀ b, kd b = 3 → fldR (f b) 3 = fldR (f b) 3 := fun _ _ => rfl
  obtain ⟨a_2, a_3, a_4, a_5, a_6, v_7, v_8, v_9, v_10, v_11, v_12, v_13, a_14, a_15, a_16, v_17, a_18, a_19, hfo_1, ⟨ma_2, ka_2⟩, ⟨ma_3, ka_3⟩, ⟨ma_4, ka_4⟩, ⟨ma_5, ka_5⟩, ⟨ma_6, ka_6⟩, bv_7, bv_8, bv_9, ⟨ma_14, ka_14⟩, ⟨ma_15, ka_15⟩, ⟨ma_16, ka_16⟩, bv_17, ⟨ma_18, ka_18⟩, ⟨ma_19, ka_19⟩⟩ := un_3 (hG _ mo0) ko0
  have bv_10 : ((-2147483648) ≤ v_10.toInt ∧ v_10.toInt ≤ 2147483647) := ⟨i32_lo _, i32_hi _⟩
  have bv_11 : ((-2147483648) ≤ v_11.toInt ∧ v_11.toInt ≤ 2147483647) := ⟨i32_lo _, i32_hi _⟩
  have bv_12 : ((-2147483648) ≤ v_12.toInt ∧ v_12.toInt ≤ 2147483647) := ⟨i32_lo _, i32_hi _⟩
  have bv_13 : ((-2147483648) ≤ v_13.toInt ∧ v_13.toInt ≤ 2147483647) := ⟨i32_lo _, i32_hi _⟩
  have hT0 := hxtr0 a_5 (by rw [hfo_1]; rfl)
  refine lv_aload_n hx hb dX3_list_0 rfl (lv_at hl 0 rfl) ?_
  refine lv_iconst (v := 1) hx hb dX3_list_1 (by decide) ?_
  refine tk_putP (D := (dC, dI)) (ci := 3) (v := .int 1) (ty := .boolean) (C := RX3) (T := TX3) (N := 18) hx hb hU inlX3 tyX3 tyX3_ok nmX3 hown hK hP hD hS mo0 hfo_1 rfl 6 (by decide) (hU _ wd_732) (fun _ h9 => h9) rfl (by decide +kernel) rfl rfl (Nat.le_of_ble_eq_true rfl) dX3_list_2 (fun H locs hP hD hS => ?_)
  obtain ⟨f_21, ef_21⟩ : ∃ y : Nat → va_E, y = va_up f o0 (.inr (3, [.ref a_2, .ref a_3, .ref a_4, .ref a_5, .ref a_6, .int v_7, .int 1, .int v_9, .int v_10, .int v_11, .int v_12, .int v_13, .ref a_14, .ref a_15, .ref a_16, .int v_17, .ref a_18, .ref a_19])) := ⟨_, rfl⟩
  have hP : va_P (dC, dI) vwCl (va_pl L f_21) H := by rw [ef_21]; exact hP
  have hD : va_D (fun q => q ∈ L) (va_pl L f_21) := by rw [ef_21]; exact hD
  have hG : GI (okc cI cL cZ cR cG cH L kd) kd L f_21 := by rw [ef_21]; exact hG.set o0 (mk_3 ko0 ⟨a_2, a_3, a_4, a_5, a_6, v_7, 1, v_9, v_10, v_11, v_12, v_13, a_14, a_15, a_16, v_17, a_18, a_19, rfl, ⟨ma_2, ka_2⟩, ⟨ma_3, ka_3⟩, ⟨ma_4, ka_4⟩, ⟨ma_5, ka_5⟩, ⟨ma_6, ka_6⟩, (by constructor <;> omega), (by decide), (by constructor <;> omega), ⟨ma_14, ka_14⟩, ⟨ma_15, ka_15⟩, ⟨ma_16, ka_16⟩, (by constructor <;> omega), ⟨ma_18, ka_18⟩, ⟨ma_19, ka_19⟩⟩)
  have hfr0 : ∀ b, kd b ≠ 1 → kd b ≠ 3 → kd b ≠ 10 → kd b ≠ 517 → kd b ≠ 518 → kd b ≠ 519 → kd b ≠ 520 → kd b ≠ 521 → kd b ≠ 522 → kd b ≠ 523 → kd b ≠ 524 → kd b ≠ 525 → kd b ≠ 526 → kd b ≠ 527 → f_21 b = f b := fun b q1 q3 q10 q517 q518 q519 q520 q521 q522 q523 q524 q525 q526 q527 => (congrFun ef_21 b).trans ((up_ne (fun e9 => q3 (by rw [e9]; exact ko0))).trans (hfr0 b q1 q3 q10 q517 q518 q519 q520 q521 q522 q523 q524 q525 q526 q527))
  have hrr1_0 : ∀ b, kd b = 1 → fldR (f_21 b) 0 = fldR (f b) 0 := fun b kb => (congrArg (fun x => fldR x 0) ((congrFun ef_21 b).trans (up_ne (kd_ne ko0 kb (by decide))))).trans (hrr1_0 b kb)
  have hrr1_1 : ∀ b, kd b = 1 → fldR (f_21 b) 1 = fldR (f b) 1 := fun b kb => (congrArg (fun x => fldR x 1) ((congrFun ef_21 b).trans (up_ne (kd_ne ko0 kb (by decide))))).trans (hrr1_1 b kb)
  have hrr3_0 : ∀ b, kd b = 3 → fldR (f_21 b) 0 = fldR (f b) 0 := fun b kb => ((congrArg (fun x => fldR x 0) (congrFun ef_21 b)).trans (fr_up (by rw [hfo_1]; rfl) b)).trans (hrr3_0 b kb)
  have hrr3_3 : ∀ b, kd b = 3 → fldR (f_21 b) 3 = fldR (f b) 3 := fun b kb => ((congrArg (fun x => fldR x 3) (congrFun ef_21 b)).trans (fr_up (by rw [hfo_1]; rfl) b)).trans (hrr3_3 b kb)
  have hT0 : drel kd 1 521 522 f_21 a_5 := by rw [ef_21]; exact hT0.up ko0 (by decide) (by decide) (by decide)
  have hfo_22 : f_21 o0 = .inr (3, [.ref a_2, .ref a_3, .ref a_4, .ref a_5, .ref a_6, .int v_7, .int 1, .int v_9, .int v_10, .int v_11, .int v_12, .int v_13, .ref a_14, .ref a_15, .ref a_16, .int v_17, .ref a_18, .ref a_19]) := by rw [ef_21]; exact up_self
  refine lv_aload_n hx hb dX3_list_5 rfl (lv_at hl 0 rfl) ?_
  refine lv_iconst (v := 0) hx hb dX3_list_6 (by decide) ?_
  refine tk_putP (D := (dC, dI)) (ci := 3) (v := .int 0) (ty := .boolean) (C := RX3) (T := TX3) (N := 18) hx hb hU inlX3 tyX3 tyX3_ok nmX3 hown hK hP hD hS mo0 hfo_22 rfl 7 (by decide) (hU _ wd_733) (fun _ h9 => h9) rfl (by decide +kernel) rfl rfl (Nat.le_of_ble_eq_true rfl) dX3_list_7 (fun H locs hP hD hS => ?_)
  obtain ⟨f_24, ef_24⟩ : ∃ y : Nat → va_E, y = va_up f_21 o0 (.inr (3, [.ref a_2, .ref a_3, .ref a_4, .ref a_5, .ref a_6, .int v_7, .int 1, .int 0, .int v_10, .int v_11, .int v_12, .int v_13, .ref a_14, .ref a_15, .ref a_16, .int v_17, .ref a_18, .ref a_19])) := ⟨_, rfl⟩
  have hP : va_P (dC, dI) vwCl (va_pl L f_24) H := by rw [ef_24]; exact hP
  have hD : va_D (fun q => q ∈ L) (va_pl L f_24) := by rw [ef_24]; exact hD
  have hG : GI (okc cI cL cZ cR cG cH L kd) kd L f_24 := by rw [ef_24]; exact hG.set o0 (mk_3 ko0 ⟨a_2, a_3, a_4, a_5, a_6, v_7, 1, 0, v_10, v_11, v_12, v_13, a_14, a_15, a_16, v_17, a_18, a_19, rfl, ⟨ma_2, ka_2⟩, ⟨ma_3, ka_3⟩, ⟨ma_4, ka_4⟩, ⟨ma_5, ka_5⟩, ⟨ma_6, ka_6⟩, (by constructor <;> omega), (by decide), (by decide), ⟨ma_14, ka_14⟩, ⟨ma_15, ka_15⟩, ⟨ma_16, ka_16⟩, (by constructor <;> omega), ⟨ma_18, ka_18⟩, ⟨ma_19, ka_19⟩⟩)
  have hfr0 : ∀ b, kd b ≠ 1 → kd b ≠ 3 → kd b ≠ 10 → kd b ≠ 517 → kd b ≠ 518 → kd b ≠ 519 → kd b ≠ 520 → kd b ≠ 521 → kd b ≠ 522 → kd b ≠ 523 → kd b ≠ 524 → kd b ≠ 525 → kd b ≠ 526 → kd b ≠ 527 → f_24 b = f b := fun b q1 q3 q10 q517 q518 q519 q520 q521 q522 q523 q524 q525 q526 q527 => (congrFun ef_24 b).trans ((up_ne (fun e9 => q3 (by rw [e9]; exact ko0))).trans (hfr0 b q1 q3 q10 q517 q518 q519 q520 q521 q522 q523 q524 q525 q526 q527))
  have hrr1_0 : ∀ b, kd b = 1 → fldR (f_24 b) 0 = fldR (f b) 0 := fun b kb => (congrArg (fun x => fldR x 0) ((congrFun ef_24 b).trans (up_ne (kd_ne ko0 kb (by decide))))).trans (hrr1_0 b kb)
  have hrr1_1 : ∀ b, kd b = 1 → fldR (f_24 b) 1 = fldR (f b) 1 := fun b kb => (congrArg (fun x => fldR x 1) ((congrFun ef_24 b).trans (up_ne (kd_ne ko0 kb (by decide))))).trans (hrr1_1 b kb)
  have hrr3_0 : ∀ b, kd b = 3 → fldR (f_24 b) 0 = fldR (f b) 0 := fun b kb => ((congrArg (fun x => fldR x 0) (congrFun ef_24 b)).trans (fr_up (by rw [hfo_22]; rfl) b)).trans (hrr3_0 b kb)
  have hrr3_3 : ∀ b, kd b = 3 → fldR (f_24 b) 3 = fldR (f b) 3 := fun b kb => ((congrArg (fun x => fldR x 3) (congrFun ef_24 b)).trans (fr_up (by rw [hfo_22]; rfl) b)).trans (hrr3_3 b kb)
  have hT0 : drel kd 1 521 522 f_24 a_5 := by rw [ef_24]; exact hT0.up ko0 (by decide) (by decide) (by decide)
  have hfo_25 : f_24 o0 = .inr (3, [.ref a_2, .ref a_3, .ref a_4, .ref a_5, .ref a_6, .int v_7, .int 1, .int 0, .int v_10, .int v_11, .int v_12, .int v_13, .ref a_14, .ref a_15, .ref a_16, .int v_17, .ref a_18, .ref a_19]) := by rw [ef_24]; exact up_self
  refine lv_aload_n hx hb dX3_list_10 rfl (lv_at hl 0 rfl) ?_
  refine lv_aload_n hx hb dX3_list_11 rfl (lv_at hl 0 rfl) ?_
  refine lv_iload_n hx hb dX3_list_12 rfl (lv_at hl 3 rfl) ?_
  refine tk_ViP (As := [.int p3]) (rest := [.ref o0]) (n := 1) hx hb hml hown hU hN hZ (s_X3_breakable_k3 l (dC, dI) cI cL cZ cR cG cH Z kd L f_24 hG o0 mo0 ko0 p3) wd_737 wd_738 wd_739 wd_16 wd_740 (by decide +kernel) ⟨Nat.le_of_ble_eq_true rfl, Nat.le_of_ble_eq_true rfl⟩ hK hP hD hS mo0 hfo_25 3 rfl rfl rfl hl.1 rfl (Nat.le_of_ble_eq_true rfl) dX3_list_13 ⟨Nat.le_of_ble_eq_true rfl, Nat.le_of_ble_eq_true rfl⟩ (fun x_26 f_27 H locs hw hP hD hS => ?_)
  obtain ⟨rfl, bx_26⟩ := hw
  refine tk_putP (D := (dC, dI)) (ci := 3) (v := .int x_26) (ty := .int) (C := RX3) (T := TX3) (N := 18) hx hb hU inlX3 tyX3 tyX3_ok nmX3 hown hK hP hD hS mo0 hfo_25 rfl 8 (by decide) (hU _ wd_734) (fun _ h9 => h9) rfl (by decide +kernel) rfl rfl (Nat.le_of_ble_eq_true rfl) dX3_list_16 (fun H locs hP hD hS => ?_)
  obtain ⟨f_30, ef_30⟩ : ∃ y : Nat → va_E, y = va_up f_24 o0 (.inr (3, [.ref a_2, .ref a_3, .ref a_4, .ref a_5, .ref a_6, .int v_7, .int 1, .int 0, .int x_26, .int v_11, .int v_12, .int v_13, .ref a_14, .ref a_15, .ref a_16, .int v_17, .ref a_18, .ref a_19])) := ⟨_, rfl⟩
  have hP : va_P (dC, dI) vwCl (va_pl L f_30) H := by rw [ef_30]; exact hP
  have hD : va_D (fun q => q ∈ L) (va_pl L f_30) := by rw [ef_30]; exact hD
  have hG : GI (okc cI cL cZ cR cG cH L kd) kd L f_30 := by rw [ef_30]; exact hG.set o0 (mk_3 ko0 ⟨a_2, a_3, a_4, a_5, a_6, v_7, 1, 0, x_26, v_11, v_12, v_13, a_14, a_15, a_16, v_17, a_18, a_19, rfl, ⟨ma_2, ka_2⟩, ⟨ma_3, ka_3⟩, ⟨ma_4, ka_4⟩, ⟨ma_5, ka_5⟩, ⟨ma_6, ka_6⟩, (by constructor <;> omega), (by decide), (by decide), ⟨ma_14, ka_14⟩, ⟨ma_15, ka_15⟩, ⟨ma_16, ka_16⟩, (by constructor <;> omega), ⟨ma_18, ka_18⟩, ⟨ma_19, ka_19⟩⟩)
  have hfr0 : ∀ b, kd b ≠ 1 → kd b ≠ 3 → kd b ≠ 10 → kd b ≠ 517 → kd b ≠ 518 → kd b ≠ 519 → kd b ≠ 520 → kd b ≠ 521 → kd b ≠ 522 → kd b ≠ 523 → kd b ≠ 524 → kd b ≠ 525 → kd b ≠ 526 → kd b ≠ 527 → f_30 b = f b := fun b q1 q3 q10 q517 q518 q519 q520 q521 q522 q523 q524 q525 q526 q527 => (congrFun ef_30 b).trans ((up_ne (fun e9 => q3 (by rw [e9]; exact ko0))).trans (hfr0 b q1 q3 q10 q517 q518 q519 q520 q521 q522 q523 q524 q525 q526 q527))
  have hrr1_0 : ∀ b, kd b = 1 → fldR (f_30 b) 0 = fldR (f b) 0 := fun b kb => (congrArg (fun x => fldR x 0) ((congrFun ef_30 b).trans (up_ne (kd_ne ko0 kb (by decide))))).trans (hrr1_0 b kb)
  have hrr1_1 : ∀ b, kd b = 1 → fldR (f_30 b) 1 = fldR (f b) 1 := fun b kb => (congrArg (fun x => fldR x 1) ((congrFun ef_30 b).trans (up_ne (kd_ne ko0 kb (by decide))))).trans (hrr1_1 b kb)
  have hrr3_0 : ∀ b, kd b = 3 → fldR (f_30 b) 0 = fldR (f b) 0 := fun b kb => ((congrArg (fun x => fldR x 0) (congrFun ef_30 b)).trans (fr_up (by rw [hfo_25]; rfl) b)).trans (hrr3_0 b kb)
  have hrr3_3 : ∀ b, kd b = 3 → fldR (f_30 b) 3 = fldR (f b) 3 := fun b kb => ((congrArg (fun x => fldR x 3) (congrFun ef_30 b)).trans (fr_up (by rw [hfo_25]; rfl) b)).trans (hrr3_3 b kb)
  have hT0 : drel kd 1 521 522 f_30 a_5 := by rw [ef_30]; exact hT0.up ko0 (by decide) (by decide) (by decide)
  have hfo_31 : f_30 o0 = .inr (3, [.ref a_2, .ref a_3, .ref a_4, .ref a_5, .ref a_6, .int v_7, .int 1, .int 0, .int x_26, .int v_11, .int v_12, .int v_13, .ref a_14, .ref a_15, .ref a_16, .int v_17, .ref a_18, .ref a_19]) := by rw [ef_30]; exact up_self
  refine lv_aload_n hx hb dX3_list_19 rfl (lv_at hl 0 rfl) ?_
  refine lv_iload_n hx hb dX3_list_20 rfl (lv_at hl 1 rfl) ?_
  refine tk_putP (D := (dC, dI)) (ci := 3) (v := .int p1) (ty := .int) (C := RX3) (T := TX3) (N := 18) hx hb hU inlX3 tyX3 tyX3_ok nmX3 hown hK hP hD hS mo0 hfo_31 rfl 9 (by decide) (hU _ wd_735) (fun _ h9 => h9) rfl (by decide +kernel) rfl rfl (Nat.le_of_ble_eq_true rfl) dX3_list_21 (fun H locs hP hD hS => ?_)
  obtain ⟨f_33, ef_33⟩ : ∃ y : Nat → va_E, y = va_up f_30 o0 (.inr (3, [.ref a_2, .ref a_3, .ref a_4, .ref a_5, .ref a_6, .int v_7, .int 1, .int 0, .int x_26, .int p1, .int v_12, .int v_13, .ref a_14, .ref a_15, .ref a_16, .int v_17, .ref a_18, .ref a_19])) := ⟨_, rfl⟩
  have hP : va_P (dC, dI) vwCl (va_pl L f_33) H := by rw [ef_33]; exact hP
  have hD : va_D (fun q => q ∈ L) (va_pl L f_33) := by rw [ef_33]; exact hD
  have hG : GI (okc cI cL cZ cR cG cH L kd) kd L f_33 := by rw [ef_33]; exact hG.set o0 (mk_3 ko0 ⟨a_2, a_3, a_4, a_5, a_6, v_7, 1, 0, x_26, p1, v_12, v_13, a_14, a_15, a_16, v_17, a_18, a_19, rfl, ⟨ma_2, ka_2⟩, ⟨ma_3, ka_3⟩, ⟨ma_4, ka_4⟩, ⟨ma_5, ka_5⟩, ⟨ma_6, ka_6⟩, (by constructor <;> omega), (by decide), (by decide), ⟨ma_14, ka_14⟩, ⟨ma_15, ka_15⟩, ⟨ma_16, ka_16⟩, (by constructor <;> omega), ⟨ma_18, ka_18⟩, ⟨ma_19, ka_19⟩⟩)
  have hfr0 : ∀ b, kd b ≠ 1 → kd b ≠ 3 → kd b ≠ 10 → kd b ≠ 517 → kd b ≠ 518 → kd b ≠ 519 → kd b ≠ 520 → kd b ≠ 521 → kd b ≠ 522 → kd b ≠ 523 → kd b ≠ 524 → kd b ≠ 525 → kd b ≠ 526 → kd b ≠ 527 → f_33 b = f b := fun b q1 q3 q10 q517 q518 q519 q520 q521 q522 q523 q524 q525 q526 q527 => (congrFun ef_33 b).trans ((up_ne (fun e9 => q3 (by rw [e9]; exact ko0))).trans (hfr0 b q1 q3 q10 q517 q518 q519 q520 q521 q522 q523 q524 q525 q526 q527))
  have hrr1_0 : ∀ b, kd b = 1 → fldR (f_33 b) 0 = fldR (f b) 0 := fun b kb => (congrArg (fun x => fldR x 0) ((congrFun ef_33 b).trans (up_ne (kd_ne ko0 kb (by decide))))).trans (hrr1_0 b kb)
  have hrr1_1 : ∀ b, kd b = 1 → fldR (f_33 b) 1 = fldR (f b) 1 := fun b kb => (congrArg (fun x => fldR x 1) ((congrFun ef_33 b).trans (up_ne (kd_ne ko0 kb (by decide))))).trans (hrr1_1 b kb)
  have hrr3_0 : ∀ b, kd b = 3 → fldR (f_33 b) 0 = fldR (f b) 0 := fun b kb => ((congrArg (fun x => fldR x 0) (congrFun ef_33 b)).trans (fr_up (by rw [hfo_31]; rfl) b)).trans (hrr3_0 b kb)
  have hrr3_3 : ∀ b, kd b = 3 → fldR (f_33 b) 3 = fldR (f b) 3 := fun b kb => ((congrArg (fun x => fldR x 3) (congrFun ef_33 b)).trans (fr_up (by rw [hfo_31]; rfl) b)).trans (hrr3_3 b kb)
  have hT0 : drel kd 1 521 522 f_33 a_5 := by rw [ef_33]; exact hT0.up ko0 (by decide) (by decide) (by decide)
  have hfo_34 : f_33 o0 = .inr (3, [.ref a_2, .ref a_3, .ref a_4, .ref a_5, .ref a_6, .int v_7, .int 1, .int 0, .int x_26, .int p1, .int v_12, .int v_13, .ref a_14, .ref a_15, .ref a_16, .int v_17, .ref a_18, .ref a_19]) := by rw [ef_33]; exact up_self
  refine lv_aload_n hx hb dX3_list_24 rfl (lv_at hl 0 rfl) ?_
  refine lv_iload_n hx hb dX3_list_25 rfl (lv_at hl 2 rfl) ?_
  refine tk_putP (D := (dC, dI)) (ci := 3) (v := .int p2) (ty := .int) (C := RX3) (T := TX3) (N := 18) hx hb hU inlX3 tyX3 tyX3_ok nmX3 hown hK hP hD hS mo0 hfo_34 rfl 10 (by decide) (hU _ wd_736) (fun _ h9 => h9) rfl (by decide +kernel) rfl rfl (Nat.le_of_ble_eq_true rfl) dX3_list_26 (fun H locs hP hD hS => ?_)
  obtain ⟨f_36, ef_36⟩ : ∃ y : Nat → va_E, y = va_up f_33 o0 (.inr (3, [.ref a_2, .ref a_3, .ref a_4, .ref a_5, .ref a_6, .int v_7, .int 1, .int 0, .int x_26, .int p1, .int p2, .int v_13, .ref a_14, .ref a_15, .ref a_16, .int v_17, .ref a_18, .ref a_19])) := ⟨_, rfl⟩
  have hP : va_P (dC, dI) vwCl (va_pl L f_36) H := by rw [ef_36]; exact hP
  have hD : va_D (fun q => q ∈ L) (va_pl L f_36) := by rw [ef_36]; exact hD
  have hG : GI (okc cI cL cZ cR cG cH L kd) kd L f_36 := by rw [ef_36]; exact hG.set o0 (mk_3 ko0 ⟨a_2, a_3, a_4, a_5, a_6, v_7, 1, 0, x_26, p1, p2, v_13, a_14, a_15, a_16, v_17, a_18, a_19, rfl, ⟨ma_2, ka_2⟩, ⟨ma_3, ka_3⟩, ⟨ma_4, ka_4⟩, ⟨ma_5, ka_5⟩, ⟨ma_6, ka_6⟩, (by constructor <;> omega), (by decide), (by decide), ⟨ma_14, ka_14⟩, ⟨ma_15, ka_15⟩, ⟨ma_16, ka_16⟩, (by constructor <;> omega), ⟨ma_18, ka_18⟩, ⟨ma_19, ka_19⟩⟩)
  have hfr0 : ∀ b, kd b ≠ 1 → kd b ≠ 3 → kd b ≠ 10 → kd b ≠ 517 → kd b ≠ 518 → kd b ≠ 519 → kd b ≠ 520 → kd b ≠ 521 → kd b ≠ 522 → kd b ≠ 523 → kd b ≠ 524 → kd b ≠ 525 → kd b ≠ 526 → kd b ≠ 527 → f_36 b = f b := fun b q1 q3 q10 q517 q518 q519 q520 q521 q522 q523 q524 q525 q526 q527 => (congrFun ef_36 b).trans ((up_ne (fun e9 => q3 (by rw [e9]; exact ko0))).trans (hfr0 b q1 q3 q10 q517 q518 q519 q520 q521 q522 q523 q524 q525 q526 q527))
  have hrr1_0 : ∀ b, kd b = 1 → fldR (f_36 b) 0 = fldR (f b) 0 := fun b kb => (congrArg (fun x => fldR x 0) ((congrFun ef_36 b).trans (up_ne (kd_ne ko0 kb (by decide))))).trans (hrr1_0 b kb)
  have hrr1_1 : ∀ b, kd b = 1 → fldR (f_36 b) 1 = fldR (f b) 1 := fun b kb => (congrArg (fun x => fldR x 1) ((congrFun ef_36 b).trans (up_ne (kd_ne ko0 kb (by decide))))).trans (hrr1_1 b kb)
  have hrr3_0 : ∀ b, kd b = 3 → fldR (f_36 b) 0 = fldR (f b) 0 := fun b kb => ((congrArg (fun x => fldR x 0) (congrFun ef_36 b)).trans (fr_up (by rw [hfo_34]; rfl) b)).trans (hrr3_0 b kb)
  have hrr3_3 : ∀ b, kd b = 3 → fldR (f_36 b) 3 = fldR (f b) 3 := fun b kb => ((congrArg (fun x => fldR x 3) (congrFun ef_36 b)).trans (fr_up (by rw [hfo_34]; rfl) b)).trans (hrr3_3 b kb)
  have hT0 : drel kd 1 521 522 f_36 a_5 := by rw [ef_36]; exact hT0.up ko0 (by decide) (by decide) (by decide)
  have hfo_37 : f_36 o0 = .inr (3, [.ref a_2, .ref a_3, .ref a_4, .ref a_5, .ref a_6, .int v_7, .int 1, .int 0, .int x_26, .int p1, .int p2, .int v_13, .ref a_14, .ref a_15, .ref a_16, .int v_17, .ref a_18, .ref a_19]) := by rw [ef_36]; exact up_self
  refine lv_aload_n hx hb dX3_list_29 rfl (lv_at hl 0 rfl) ?_
  refine lv_iconst (v := 0) hx hb dX3_list_30 (by decide) ?_
  refine tk_putP (D := (dC, dI)) (ci := 3) (v := .int 0) (ty := .int) (C := RX3) (T := TX3) (N := 18) hx hb hU inlX3 tyX3 tyX3_ok nmX3 hown hK hP hD hS mo0 hfo_37 rfl 15 (by decide) (hU _ wd_796) (fun _ h9 => h9) rfl (by decide +kernel) rfl rfl (Nat.le_of_ble_eq_true rfl) dX3_list_31 (fun H locs hP hD hS => ?_)
  obtain ⟨f_39, ef_39⟩ : ∃ y : Nat → va_E, y = va_up f_36 o0 (.inr (3, [.ref a_2, .ref a_3, .ref a_4, .ref a_5, .ref a_6, .int v_7, .int 1, .int 0, .int x_26, .int p1, .int p2, .int v_13, .ref a_14, .ref a_15, .ref a_16, .int 0, .ref a_18, .ref a_19])) := ⟨_, rfl⟩
  have hP : va_P (dC, dI) vwCl (va_pl L f_39) H := by rw [ef_39]; exact hP
  have hD : va_D (fun q => q ∈ L) (va_pl L f_39) := by rw [ef_39]; exact hD
  have hG : GI (okc cI cL cZ cR cG cH L kd) kd L f_39 := by rw [ef_39]; exact hG.set o0 (mk_3 ko0 ⟨a_2, a_3, a_4, a_5, a_6, v_7, 1, 0, x_26, p1, p2, v_13, a_14, a_15, a_16, 0, a_18, a_19, rfl, ⟨ma_2, ka_2⟩, ⟨ma_3, ka_3⟩, ⟨ma_4, ka_4⟩, ⟨ma_5, ka_5⟩, ⟨ma_6, ka_6⟩, (by constructor <;> omega), (by decide), (by decide), ⟨ma_14, ka_14⟩, ⟨ma_15, ka_15⟩, ⟨ma_16, ka_16⟩, (by decide), ⟨ma_18, ka_18⟩, ⟨ma_19, ka_19⟩⟩)
  have hfr0 : ∀ b, kd b ≠ 1 → kd b ≠ 3 → kd b ≠ 10 → kd b ≠ 517 → kd b ≠ 518 → kd b ≠ 519 → kd b ≠ 520 → kd b ≠ 521 → kd b ≠ 522 → kd b ≠ 523 → kd b ≠ 524 → kd b ≠ 525 → kd b ≠ 526 → kd b ≠ 527 → f_39 b = f b := fun b q1 q3 q10 q517 q518 q519 q520 q521 q522 q523 q524 q525 q526 q527 => (congrFun ef_39 b).trans ((up_ne (fun e9 => q3 (by rw [e9]; exact ko0))).trans (hfr0 b q1 q3 q10 q517 q518 q519 q520 q521 q522 q523 q524 q525 q526 q527))
  have hrr1_0 : ∀ b, kd b = 1 → fldR (f_39 b) 0 = fldR (f b) 0 := fun b kb => (congrArg (fun x => fldR x 0) ((congrFun ef_39 b).trans (up_ne (kd_ne ko0 kb (by decide))))).trans (hrr1_0 b kb)
  have hrr1_1 : ∀ b, kd b = 1 → fldR (f_39 b) 1 = fldR (f b) 1 := fun b kb => (congrArg (fun x => fldR x 1) ((congrFun ef_39 b).trans (up_ne (kd_ne ko0 kb (by decide))))).trans (hrr1_1 b kb)
  have hrr3_0 : ∀ b, kd b = 3 → fldR (f_39 b) 0 = fldR (f b) 0 := fun b kb => ((congrArg (fun x => fldR x 0) (congrFun ef_39 b)).trans (fr_up (by rw [hfo_37]; rfl) b)).trans (hrr3_0 b kb)
  have hrr3_3 : ∀ b, kd b = 3 → fldR (f_39 b) 3 = fldR (f b) 3 := fun b kb => ((congrArg (fun x => fldR x 3) (congrFun ef_39 b)).trans (fr_up (by rw [hfo_37]; rfl) b)).trans (hrr3_3 b kb)
  have hT0 : drel kd 1 521 522 f_39 a_5 := by rw [ef_39]; exact hT0.up ko0 (by decide) (by decide) (by decide)
  have hfo_40 : f_39 o0 = .inr (3, [.ref a_2, .ref a_3, .ref a_4, .ref a_5, .ref a_6, .int v_7, .int 1, .int 0, .int x_26, .int p1, .int p2, .int v_13, .ref a_14, .ref a_15, .ref a_16, .int 0, .ref a_18, .ref a_19]) := by rw [ef_39]; exact up_self
  refine lv_aload_n hx hb dX3_list_34 rfl (lv_at hl 0 rfl) ?_
  refine tk_getP (D := (dC, dI)) (ci := 3) (v := .ref a_4) (C := RX3) (T := TX3) (N := 18) hx hb hU inlX3 hown hK hP mo0 hfo_40 rfl 2 (by decide) (hU _ wd_56) (fun _ h9 => h9) rfl dX3_list_35 ?_
  refine lv_aload_n hx hb dX3_list_38 rfl (lv_at hl 0 rfl) ?_
  refine tk_getP (D := (dC, dI)) (ci := 3) (v := .ref a_2) (C := RX3) (T := TX3) (N := 18) hx hb hU inlX3 hown hK hP mo0 hfo_40 rfl 0 (by decide) (hU _ wd_48) (fun _ h9 => h9) rfl dX3_list_39 ?_
  obtain ⟨a_42, a_43, a_44, a_45, a_46, hfo_41, ⟨ma_42, ka_42⟩, ⟨ma_43, ka_43⟩, ⟨ma_44, ka_44⟩, ⟨ma_45, ka_45⟩, ⟨ma_46, ka_46⟩⟩ := un_8 (hG _ ma_4) ka_4
  refine tk_VvP (As := [.ref a_2]) (rest := []) (n := 1) hx hb hml hown hU hN hZ (s_X8_begin_k8_k7 l (dC, dI) cI cL cZ cR cG cH Z kd L f_39 hG a_4 ma_4 ka_4 a_2 ma_2 ka_2) wd_755 wd_756 wd_757 wd_55 wd_758 (by decide +kernel) ⟨Nat.le_of_ble_eq_true rfl, Nat.le_of_ble_eq_true rfl⟩ hK hP hD hS ma_4 hfo_41 8 rfl rfl rfl hl.1 rfl (Nat.le_of_ble_eq_true rfl) dX3_list_42 ⟨Nat.le_of_ble_eq_true rfl, Nat.le_of_ble_eq_true rfl⟩ (fun f_48 H locs hw hP hD hS => ?_)
  obtain ⟨hG, hkc_49⟩ := hw
  have hfo_51 : f_48 o0 = .inr (3, [.ref a_2, .ref a_3, .ref a_4, .ref a_5, .ref a_6, .int v_7, .int 1, .int 0, .int x_26, .int p1, .int p2, .int v_13, .ref a_14, .ref a_15, .ref a_16, .int 0, .ref a_18, .ref a_19]) := by rw [hkc_49 o0 (by rw [ko0]; decide) (by rw [ko0]; decide) (by rw [ko0]; decide)]; exact hfo_40
  have hfo_52 : f_48 a_4 = .inr (8, [.ref a_42, .ref a_43, .ref a_44, .ref a_45, .ref a_46]) := by rw [hkc_49 a_4 (by rw [ka_4]; decide) (by rw [ka_4]; decide) (by rw [ka_4]; decide)]; exact hfo_41
  have hfr0 : ∀ b, kd b ≠ 1 → kd b ≠ 3 → kd b ≠ 10 → kd b ≠ 517 → kd b ≠ 518 → kd b ≠ 519 → kd b ≠ 520 → kd b ≠ 521 → kd b ≠ 522 → kd b ≠ 523 → kd b ≠ 524 → kd b ≠ 525 → kd b ≠ 526 → kd b ≠ 527 → f_48 b = f b := fun b q1 q3 q10 q517 q518 q519 q520 q521 q522 q523 q524 q525 q526 q527 => (hkc_49 b q517 q518 q520).trans (hfr0 b q1 q3 q10 q517 q518 q519 q520 q521 q522 q523 q524 q525 q526 q527)
  have hrr1_0 : ∀ b, kd b = 1 → fldR (f_48 b) 0 = fldR (f b) 0 := fun b kb => (congrArg (fun x => fldR x 0) (hkc_49 b (by rw [kb]; decide) (by rw [kb]; decide) (by rw [kb]; decide))).trans (hrr1_0 b kb)
  have hrr1_1 : ∀ b, kd b = 1 → fldR (f_48 b) 1 = fldR (f b) 1 := fun b kb => (congrArg (fun x => fldR x 1) (hkc_49 b (by rw [kb]; decide) (by rw [kb]; decide) (by rw [kb]; decide))).trans (hrr1_1 b kb)
  have hrr3_0 : ∀ b, kd b = 3 → fldR (f_48 b) 0 = fldR (f b) 0 := fun b kb => (congrArg (fun x => fldR x 0) (hkc_49 b (by rw [kb]; decide) (by rw [kb]; decide) (by rw [kb]; decide))).trans (hrr3_0 b kb)
  have hrr3_3 : ∀ b, kd b = 3 → fldR (f_48 b) 3 = fldR (f b) 3 := fun b kb => (congrArg (fun x => fldR x 3) (hkc_49 b (by rw [kb]; decide) (by rw [kb]; decide) (by rw [kb]; decide))).trans (hrr3_3 b kb)
  have hT0 : drel kd 1 521 522 f_48 a_5 := hT0.keep (fun b q => congrArg (fun x => fldI x 5) (hkc_49 b (by rw [q]; decide) (by rw [q]; decide) (by rw [q]; decide))) (fun b q => congrArg (fun x => fldR x 0) (hkc_49 b (by rw [q]; decide) (by rw [q]; decide) (by rw [q]; decide))) (fun b q => congrArg (fun x => fldR x 1) (hkc_49 b (by rw [q]; decide) (by rw [q]; decide) (by rw [q]; decide))) (fun b q => hkc_49 b (by rw [q]; decide) (by rw [q]; decide) (by rw [q]; decide)) (fun b q => hkc_49 b (by rw [q]; decide) (by rw [q]; decide) (by rw [q]; decide))
  refine lv_aload_n hx hb dX3_list_45 rfl (lv_at hl 0 rfl) ?_
  refine lv_iconst (v := 0) hx hb dX3_list_46 (by decide) ?_
  refine lv_iconst (v := 0) hx hb dX3_list_47 (by decide) ?_
  refine lv_iload hx hb dX3_list_48 (lv_at hl 4 rfl) ?_
  refine lv_iconst (v := 0) hx hb dX3_list_50 (by decide) ?_
  refine lv_iconst (v := 0) hx hb dX3_list_51 (by decide) ?_
  refine tk_ViP (As := [.int 0, .int 0, .int p4, .int 0, .int 0]) (rest := []) (n := 5) hx hb hml hown hU hN hZ (s_X3_descend_k3 l (dC, dI) cI cL cZ cR cG cH Z kd L 10 f_48 hG o0 mo0 ko0 0 (by decide) 0 (by decide) p4 0 (by decide) 0 (by decide) (by (try rw [ti_0]) <;> omega) (fun d9 h9 => by rw [hfo_51] at h9; obtain rfl := Option.some.inj h9; exact hT0) (by have h3 : ((0 : Int32)).toInt = 0 := rfl; rw [h3]; exact capR.zero) (by (try rw [ti_0]) <;> omega)) wd_762 wd_763 wd_764 wd_16 wd_765 (by decide +kernel) ⟨Nat.le_of_ble_eq_true rfl, Nat.le_of_ble_eq_true rfl⟩ hK hP hD hS mo0 hfo_51 3 rfl rfl rfl hl.1 rfl (Nat.le_of_ble_eq_true rfl) dX3_list_52 ⟨Nat.le_of_ble_eq_true rfl, Nat.le_of_ble_eq_true rfl⟩ (fun x_53 f_54 H locs hw hP hD hS => ?_)
  obtain ⟨hG, bx_53, hkc_55, hrc_56, hrc_57, hrc_58, hrc_59, hTc_60⟩ := hw
  have hfo_62 : f_54 a_4 = .inr (8, [.ref a_42, .ref a_43, .ref a_44, .ref a_45, .ref a_46]) := by rw [hkc_55 a_4 (by rw [ka_4]; decide) (by rw [ka_4]; decide) (by rw [ka_4]; decide) (by rw [ka_4]; decide) (by rw [ka_4]; decide) (by rw [ka_4]; decide) (by rw [ka_4]; decide) (by rw [ka_4]; decide) (by rw [ka_4]; decide) (by rw [ka_4]; decide) (by rw [ka_4]; decide) (by rw [ka_4]; decide) (by rw [ka_4]; decide) (by rw [ka_4]; decide)]; exact hfo_52
  have hfr0 : ∀ b, kd b ≠ 1 → kd b ≠ 3 → kd b ≠ 10 → kd b ≠ 517 → kd b ≠ 518 → kd b ≠ 519 → kd b ≠ 520 → kd b ≠ 521 → kd b ≠ 522 → kd b ≠ 523 → kd b ≠ 524 → kd b ≠ 525 → kd b ≠ 526 → kd b ≠ 527 → f_54 b = f b := fun b q1 q3 q10 q517 q518 q519 q520 q521 q522 q523 q524 q525 q526 q527 => (hkc_55 b q1 q3 q10 q517 q518 q519 q520 q521 q522 q523 q524 q525 q526 q527).trans (hfr0 b q1 q3 q10 q517 q518 q519 q520 q521 q522 q523 q524 q525 q526 q527)
  have hrr1_0 : ∀ b, kd b = 1 → fldR (f_54 b) 0 = fldR (f b) 0 := fun b kb => (hrc_56 b kb).trans (hrr1_0 b kb)
  have hrr1_1 : ∀ b, kd b = 1 → fldR (f_54 b) 1 = fldR (f b) 1 := fun b kb => (hrc_57 b kb).trans (hrr1_1 b kb)
  have hrr3_0 : ∀ b, kd b = 3 → fldR (f_54 b) 0 = fldR (f b) 0 := fun b kb => (hrc_58 b kb).trans (hrr3_0 b kb)
  have hrr3_3 : ∀ b, kd b = 3 → fldR (f_54 b) 3 = fldR (f b) 3 := fun b kb => (hrc_59 b kb).trans (hrr3_3 b kb)
  obtain ⟨a_64, a_65, a_66, a_67, a_68, v_69, v_70, v_71, v_72, v_73, v_74, v_75, a_76, a_77, a_78, v_79, a_80, a_81, hfo_63, ⟨ma_64, ka_64⟩, ⟨ma_65, ka_65⟩, ⟨ma_66, ka_66⟩, ⟨ma_67, ka_67⟩, ⟨ma_68, ka_68⟩, bv_69, bv_70, bv_71, ⟨ma_76, ka_76⟩, ⟨ma_77, ka_77⟩, ⟨ma_78, ka_78⟩, bv_79, ⟨ma_80, ka_80⟩, ⟨ma_81, ka_81⟩⟩ := un_3 (hG _ mo0) ko0
  have bv_72 : ((-2147483648) ≤ v_72.toInt ∧ v_72.toInt ≤ 2147483647) := ⟨i32_lo _, i32_hi _⟩
  have bv_73 : ((-2147483648) ≤ v_73.toInt ∧ v_73.toInt ≤ 2147483647) := ⟨i32_lo _, i32_hi _⟩
  have bv_74 : ((-2147483648) ≤ v_74.toInt ∧ v_74.toInt ≤ 2147483647) := ⟨i32_lo _, i32_hi _⟩
  have bv_75 : ((-2147483648) ≤ v_75.toInt ∧ v_75.toInt ≤ 2147483647) := ⟨i32_lo _, i32_hi _⟩
  obtain rfl : a_2 = a_64 := by have hk9 := hrr3_0 o0 ko0; rw [hfo_63, hfo_1] at hk9; exact (Option.some.inj hk9).symm
  obtain rfl : a_5 = a_67 := by have hk9 := hrr3_3 o0 ko0; rw [hfo_63, hfo_1] at hk9; exact (Option.some.inj hk9).symm
  have hT_82 := hTc_60 a_5 (by rw [hfo_63]; rfl)
  refine lv_pop hx hb dX3_list_55 rfl ?_
  refine lv_aload_n hx hb dX3_list_56 rfl (lv_at hl 0 rfl) ?_
  refine lv_iconst (v := (-1)) hx hb dX3_list_57 (by decide) ?_
  refine tk_putP (D := (dC, dI)) (ci := 3) (v := .int (-1)) (ty := .int) (C := RX3) (T := TX3) (N := 18) hx hb hU inlX3 tyX3 tyX3_ok nmX3 hown hK hP hD hS mo0 hfo_63 rfl 11 (by decide) (hU _ wd_62) (fun _ h9 => h9) rfl (by decide +kernel) rfl rfl (Nat.le_of_ble_eq_true rfl) dX3_list_58 (fun H locs hP hD hS => ?_)
  obtain ⟨f_84, ef_84⟩ : ∃ y : Nat → va_E, y = va_up f_54 o0 (.inr (3, [.ref a_2, .ref a_65, .ref a_66, .ref a_5, .ref a_68, .int v_69, .int v_70, .int v_71, .int v_72, .int v_73, .int v_74, .int (-1), .ref a_76, .ref a_77, .ref a_78, .int v_79, .ref a_80, .ref a_81])) := ⟨_, rfl⟩
  have hP : va_P (dC, dI) vwCl (va_pl L f_84) H := by rw [ef_84]; exact hP
  have hD : va_D (fun q => q ∈ L) (va_pl L f_84) := by rw [ef_84]; exact hD
  have hG : GI (okc cI cL cZ cR cG cH L kd) kd L f_84 := by rw [ef_84]; exact hG.set o0 (mk_3 ko0 ⟨a_2, a_65, a_66, a_5, a_68, v_69, v_70, v_71, v_72, v_73, v_74, (-1), a_76, a_77, a_78, v_79, a_80, a_81, rfl, ⟨ma_2, ka_2⟩, ⟨ma_65, ka_65⟩, ⟨ma_66, ka_66⟩, ⟨ma_5, ka_5⟩, ⟨ma_68, ka_68⟩, (by constructor <;> omega), (by constructor <;> omega), (by constructor <;> omega), ⟨ma_76, ka_76⟩, ⟨ma_77, ka_77⟩, ⟨ma_78, ka_78⟩, (by constructor <;> omega), ⟨ma_80, ka_80⟩, ⟨ma_81, ka_81⟩⟩)
  have hfo_85 : f_84 a_4 = .inr (8, [.ref a_42, .ref a_43, .ref a_44, .ref a_45, .ref a_46]) := by rw [ef_84, up_ne (kd_ne ko0 ka_4 (by decide))]; exact hfo_62
  have hfr0 : ∀ b, kd b ≠ 1 → kd b ≠ 3 → kd b ≠ 10 → kd b ≠ 517 → kd b ≠ 518 → kd b ≠ 519 → kd b ≠ 520 → kd b ≠ 521 → kd b ≠ 522 → kd b ≠ 523 → kd b ≠ 524 → kd b ≠ 525 → kd b ≠ 526 → kd b ≠ 527 → f_84 b = f b := fun b q1 q3 q10 q517 q518 q519 q520 q521 q522 q523 q524 q525 q526 q527 => (congrFun ef_84 b).trans ((up_ne (fun e9 => q3 (by rw [e9]; exact ko0))).trans (hfr0 b q1 q3 q10 q517 q518 q519 q520 q521 q522 q523 q524 q525 q526 q527))
  have hrr1_0 : ∀ b, kd b = 1 → fldR (f_84 b) 0 = fldR (f b) 0 := fun b kb => (congrArg (fun x => fldR x 0) ((congrFun ef_84 b).trans (up_ne (kd_ne ko0 kb (by decide))))).trans (hrr1_0 b kb)
  have hrr1_1 : ∀ b, kd b = 1 → fldR (f_84 b) 1 = fldR (f b) 1 := fun b kb => (congrArg (fun x => fldR x 1) ((congrFun ef_84 b).trans (up_ne (kd_ne ko0 kb (by decide))))).trans (hrr1_1 b kb)
  have hrr3_0 : ∀ b, kd b = 3 → fldR (f_84 b) 0 = fldR (f b) 0 := fun b kb => ((congrArg (fun x => fldR x 0) (congrFun ef_84 b)).trans (fr_up (by rw [hfo_63]; rfl) b)).trans (hrr3_0 b kb)
  have hrr3_3 : ∀ b, kd b = 3 → fldR (f_84 b) 3 = fldR (f b) 3 := fun b kb => ((congrArg (fun x => fldR x 3) (congrFun ef_84 b)).trans (fr_up (by rw [hfo_63]; rfl) b)).trans (hrr3_3 b kb)
  have hT_82 : drel kd 1 521 522 f_84 a_5 := by rw [ef_84]; exact hT_82.up ko0 (by decide) (by decide) (by decide)
  have hfo_86 : f_84 o0 = .inr (3, [.ref a_2, .ref a_65, .ref a_66, .ref a_5, .ref a_68, .int v_69, .int v_70, .int v_71, .int v_72, .int v_73, .int v_74, .int (-1), .ref a_76, .ref a_77, .ref a_78, .int v_79, .ref a_80, .ref a_81]) := by rw [ef_84]; exact up_self
  exact W.vret hx hb hr (fun t ht hW => ⟨⟨f_84, rfl, ⟨hG, hfr0, hrr1_0, hrr1_1, hrr3_0, hrr3_3, (fun d9 h9 => by rw [hfo_86] at h9; obtain rfl := Option.some.inj h9; exact hT_82)⟩, by rw [ht]; exact hP, va_K.moved hW.alike hK, pl_in hD⟩, hS.F ht⟩) hS.2.2 dX3_list_61
