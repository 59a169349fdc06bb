set_option maxHeartbeats 8000000 in
set_option maxRecDepth 100000 in
theorem s_X2_skipIf_k2 (l : Launch) (D : va_G) (cI cL cZ cR cG cH : ClassId) (Z : zT) (kd : Nat → Nat) (L : List Nat) (f : Nat → va_E) (hG : GI (okc cI cL cZ cR cG cH L kd) kd L f) (o0 : Nat) (mo0 : o0 ∈ L) (ko0 : kd o0 = 2) (p1 : Int32) (bp1 : (0 ≤ p1.toInt ∧ p1.toInt ≤ 255)) : mPI l D cI cL cZ cR cG cH Z yX2_skipIf cX2_skipIf 2 (some .boolean) 1 20 [.ref o0, .int p1] L f (fun (r : Int32) (f9 : Nat → va_E) => GI (okc cI cL cZ cR cG cH L kd) kd L f9 ∧ (0 ≤ r.toInt ∧ r.toInt ≤ 1) ∧ (∀ b, kd b ≠ 2 → f9 b = f b) ∧ (∀ b, kd b = 2 → fldI (f9 b) 4 = fldI (f b) 4) ∧ (∀ b, kd b = 2 → fldR (f9 b) 0 = fldR (f b) 0) ∧ (∀ b, kd b = 2 → fldR (f9 b) 3 = fldR (f b) 3) ∧ (∀ (w5 z5 : Int32), fldI (f o0) 5 = some w5 → fldI (f9 o0) 5 = some z5 → w5.toInt ≤ z5.toInt)) := by
  obtain ⟨dC, dI⟩ := D
  refine Met.ofW (cc := cX2_skipIf) (maxL := 2) (ret := (some .boolean)) (by decide) rfl ?_
  intro p e s m args below meth c s₁ B hml hv
  obtain ⟨rfl, hP, hK, hD0, hN, hZ⟩ := hv
  have hx := B.exec
  have hb := B.bytes
  have hr := B.returns
  have hU : ∀ w ∈ wsU, w.before _ s = true := fun w h => atoms_spec (ws := wU yX2_skipIf cX2_skipIf 2 (some .boolean)) B.pre w (List.mem_cons_of_mem _ h)
  have hown : s.vm.findClass RX2 = some m.cls := findClass_of_methodNamed B.named
  have hlocks := B.notSynchronized
  have hD := pl_in hD0
  have hS : va_S (fun q => q ∈ L) s.heap s.heap [] := va_S.rf
  have hl := lv_entry ([.ref o0, .int p1]) (n := 2) (Nat.le_of_ble_eq_true rfl)
  rw [lg_entry_eq]
  generalize (lg_sl ([.ref o0, .int p1]) ++ List.replicate (2 - (lg_sl ([.ref o0, .int p1])).length) Slot.unset).toArray = ls at hl ⊢
  have hl : lv_has ls 2 [(0, .ref o0), (1, .int p1)] := hl
  have hfr0 : ∀ b, kd b ≠ 2 → f b = f b := fun _ _ => rfl
  have hfr2_4 : ∀ b, kd b = 2 → fldI (f b) 4 = fldI (f b) 4 := fun _ _ => rfl
  have hrr2_0 : ∀ b, kd b = 2 → fldR (f b) 0 = fldR (f b) 0 := fun _ _ => rfl
  have hrr2_3 : ∀ b, kd b = 2 → fldR (f b) 3 = fldR (f b) 3 := fun _ _ => rfl
  obtain ⟨a_2, v_3, v_4, a_5, v_6, v_7, v_8, v_9, v_10, v_11, hfo_1, ⟨ma_2, ka_2⟩, ⟨ma_5, ka_5⟩, bv_6, bv_7, bv_8, bv_9, bv_10⟩ := un_2 (hG _ mo0) ko0
  have bv_3 : ((-2147483648) ≤ v_3.toInt ∧ v_3.toInt ≤ 2147483647) := ⟨i32_lo _, i32_hi _⟩
  have bv_4 : ((-2147483648) ≤ v_4.toInt ∧ v_4.toInt ≤ 2147483647) := ⟨i32_lo _, i32_hi _⟩
  have bv_11 : ((-2147483648) ≤ v_11.toInt ∧ v_11.toInt ≤ 2147483647) := ⟨i32_lo _, i32_hi _⟩
  refine lv_aload_n hx hb dX2_skipIf_0 rfl (lv_at hl 0 rfl) ?_
  refine tk_ViP (As := []) (rest := []) (n := 0) hx hb hml hown hU hN hZ (s_X2_peek_k2 l (dC, dI) cI cL cZ cR cG cH Z kd L f hG o0 mo0 ko0) wd_274 wd_275 wd_276 wd_33 wd_277 (by decide +kernel) ⟨Nat.le_of_ble_eq_true rfl, Nat.le_of_ble_eq_true rfl⟩ hK hP hD hS mo0 hfo_1 2 rfl rfl rfl hl.1 rfl (Nat.le_of_ble_eq_true rfl) dX2_skipIf_1 ⟨Nat.le_of_ble_eq_true rfl, Nat.le_of_ble_eq_true rfl⟩ (fun x_12 f_13 H locs hw hP hD hS => ?_)
  obtain ⟨hG, bx_12, hkc_14, hfc_15, hrc_16, hrc_17, hpost_18, hxp_19⟩ := hw
  have hfr0 : ∀ b, kd b ≠ 2 → f_13 b = f b := fun b q2 => (hkc_14 b q2).trans (hfr0 b q2)
  have hfr2_4 : ∀ b, kd b = 2 → fldI (f_13 b) 4 = fldI (f b) 4 := fun b kb => (hfc_15 b kb).trans (hfr2_4 b kb)
  have hrr2_0 : ∀ b, kd b = 2 → fldR (f_13 b) 0 = fldR (f b) 0 := fun b kb => (hrc_16 b kb).trans (hrr2_0 b kb)
  have hrr2_3 : ∀ b, kd b = 2 → fldR (f_13 b) 3 = fldR (f b) 3 := fun b kb => (hrc_17 b kb).trans (hrr2_3 b kb)
  obtain ⟨a_22, v_23, v_24, a_25, v_26, v_27, v_28, v_29, v_30, v_31, hfo_21, ⟨ma_22, ka_22⟩, ⟨ma_25, ka_25⟩, bv_26, bv_27, bv_28, bv_29, bv_30⟩ := un_2 (hG _ mo0) ko0
  have bv_23 : ((-2147483648) ≤ v_23.toInt ∧ v_23.toInt ≤ 2147483647) := ⟨i32_lo _, i32_hi _⟩
  have bv_24 : ((-2147483648) ≤ v_24.toInt ∧ v_24.toInt ≤ 2147483647) := ⟨i32_lo _, i32_hi _⟩
  have bv_31 : ((-2147483648) ≤ v_31.toInt ∧ v_31.toInt ≤ 2147483647) := ⟨i32_lo _, i32_hi _⟩
  obtain rfl : v_6 = v_26 := by have hk9 := hfc_15 o0 ko0; rw [hfo_21, hfo_1] at hk9; exact (Option.some.inj hk9).symm
  obtain rfl : a_2 = a_22 := by have hk9 := hrc_16 o0 ko0; rw [hfo_21, hfo_1] at hk9; exact (Option.some.inj hk9).symm
  obtain rfl : a_5 = a_25 := by have hk9 := hrc_17 o0 ko0; rw [hfo_21, hfo_1] at hk9; exact (Option.some.inj hk9).symm
  have hqhpost_18 := hpost_18 v_7 v_27 (by rw [hfo_1]; rfl) (by rw [hfo_21]; rfl)
  obtain ⟨g_33, hfo_32, hbg_33⟩ := un_533 (hG _ ma_5) ka_5
  have hpkx_12 := hxp_19 a_5 g_33 v_27 (by rw [hfo_21]; rfl) hfo_32 (by rw [hfo_21]; rfl)
  refine lv_iload_n hx hb dX2_skipIf_4 rfl (lv_at hl 1 rfl) ?_
  refine lv_icmp_eq (tgt := 10) hx hb dX2_skipIf_5 (by decide) (fun c_34 => ?_) (fun c_34 => ?_)
  · skip
    rw [← Int32.toInt_inj] at c_34
    have hclc_35 : (0 ≤ v_27.toInt ∧ v_27.toInt ≤ 599) := by constructor <;> omega
    refine lv_aload_n hx hb dX2_skipIf_10 rfl (lv_at hl 0 rfl) ?_
    refine lv_dup hx hb dX2_skipIf_11 rfl ?_
    refine tk_getP (D := (dC, dI)) (ci := 2) (v := .int v_27) (C := RX2) (T := TX2) (N := 10) hx hb hU inlX2 hown hK hP mo0 hfo_21 rfl 5 (by decide) (hU _ wd_256) (fun _ h9 => h9) rfl dX2_skipIf_12 ?_
    refine lv_iconst (v := 1) hx hb dX2_skipIf_15 (by decide) ?_
    refine lv_iadd hx hb dX2_skipIf_16 ?_
    refine lv_topi (fun x_36 ex_36 => ?_)
    have hx_36 : x_36.toInt = v_27.toInt + 1 := by rw [ex_36, ad_I (by rw [ti_1]; omega) (by rw [ti_1]; omega), ti_1]
    have bx_36 : (1 ≤ x_36.toInt ∧ x_36.toInt ≤ 600) := by constructor <;> omega
    refine tk_putP (D := (dC, dI)) (ci := 2) (v := .int x_36) (ty := .int) (C := RX2) (T := TX2) (N := 10) hx hb hU inlX2 tyX2 tyX2_ok nmX2 hown hK hP hD hS mo0 hfo_21 rfl 5 (by decide) (hU _ wd_256) (fun _ h9 => h9) rfl (by decide +kernel) rfl rfl (Nat.le_of_ble_eq_true rfl) dX2_skipIf_17 (fun H locs hP hD hS => ?_)
    obtain ⟨f_38, ef_38⟩ : ∃ y : Nat → va_E, y = va_up f_13 o0 (.inr (2, [.ref a_2, .int v_23, .int v_24, .ref a_5, .int v_6, .int x_36, .int v_28, .int v_29, .int v_30, .int v_31])) := ⟨_, rfl⟩
    have hP : va_P (dC, dI) vwCl (va_pl L f_38) H := by rw [ef_38]; exact hP
    have hD : va_D (fun q => q ∈ L) (va_pl L f_38) := by rw [ef_38]; exact hD
    have hG : GI (okc cI cL cZ cR cG cH L kd) kd L f_38 := by rw [ef_38]; exact hG.set o0 (mk_2 ko0 ⟨a_2, v_23, v_24, a_5, v_6, x_36, v_28, v_29, v_30, v_31, rfl, ⟨ma_2, ka_2⟩, ⟨ma_5, ka_5⟩, (by constructor <;> omega), (by constructor <;> omega), (by constructor <;> omega), (by constructor <;> omega), (by constructor <;> omega)⟩)
    have hfo_39 : f_38 a_5 = .inl (cI, 600, .inl g_33) := by rw [ef_38, up_ne (kd_ne ko0 ka_5 (by decide))]; exact hfo_32
    have hfr0 : ∀ b, kd b ≠ 2 → f_38 b = f b := fun b q2 => (congrFun ef_38 b).trans ((up_ne (fun e9 => q2 (by rw [e9]; exact ko0))).trans (hfr0 b q2))
    have hfr2_4 : ∀ b, kd b = 2 → fldI (f_38 b) 4 = fldI (f b) 4 := fun b kb => ((congrArg (fun x => fldI x 4) (congrFun ef_38 b)).trans (fk_up (by rw [hfo_21]; rfl) b)).trans (hfr2_4 b kb)
    have hrr2_0 : ∀ b, kd b = 2 → fldR (f_38 b) 0 = fldR (f b) 0 := fun b kb => ((congrArg (fun x => fldR x 0) (congrFun ef_38 b)).trans (fr_up (by rw [hfo_21]; rfl) b)).trans (hrr2_0 b kb)
    have hrr2_3 : ∀ b, kd b = 2 → fldR (f_38 b) 3 = fldR (f b) 3 := fun b kb => ((congrArg (fun x => fldR x 3) (congrFun ef_38 b)).trans (fr_up (by rw [hfo_21]; rfl) b)).trans (hrr2_3 b kb)
    have hfo_40 : f_38 o0 = .inr (2, [.ref a_2, .int v_23, .int v_24, .ref a_5, .int v_6, .int x_36, .int v_28, .int v_29, .int v_30, .int v_31]) := by rw [ef_38]; exact up_self
    refine lv_iconst (v := 1) hx hb dX2_skipIf_20 (by decide) ?_
    exact W.zret (v := 1) (ty := .boolean) hx hb hr rfl (fun t ht hW => ⟨⟨1, f_38, rfl, ⟨hG, (by decide), hfr0, hfr2_4, hrr2_0, hrr2_3, (by intro w5 z5 e5 d5; rw [hfo_1] at e5; rw [hfo_40] at d5; obtain rfl := Option.some.inj e5; obtain rfl := Option.some.inj d5; (try rw [ti_1]) <;> omega)⟩, by rw [ht]; exact hP, va_K.moved hW.alike hK, pl_in hD⟩, hS.F ht⟩) hS.2.2 dX2_skipIf_21
  · skip
    rw [← Int32.toInt_inj] at c_34
    refine lv_iconst (v := 0) hx hb dX2_skipIf_8 (by decide) ?_
    exact W.zret (v := 0) (ty := .boolean) hx hb hr rfl (fun t ht hW => ⟨⟨0, f_13, rfl, ⟨hG, (by decide), hfr0, hfr2_4, hrr2_0, hrr2_3, (by intro w5 z5 e5 d5; rw [hfo_1] at e5; rw [hfo_21] at d5; obtain rfl := Option.some.inj e5; obtain rfl := Option.some.inj d5; (try rw [ti_0]) <;> omega)⟩, by rw [ht]; exact hP, va_K.moved hW.alike hK, pl_in hD⟩, hS.F ht⟩) hS.2.2 dX2_skipIf_9
set_option maxHeartbeats 8000000 in
set_option maxRecDepth 100000 in
theorem s_X2_expect_k2 (l : Launch) (D : va_G) (cI cL cZ cR cG cH : ClassId) (Z : zT) (kd : Nat → Nat) (L : List Nat) (f : Nat → va_E) (hG : GI (okc cI cL cZ cR cG cH L kd) kd L f) (o0 : Nat) (mo0 : o0 ∈ L) (ko0 : kd o0 = 2) (p1 : Int32) (bp1 : (0 ≤ p1.toInt ∧ p1.toInt ≤ 255)) : mPI l D cI cL cZ cR cG cH Z yX2_expect cX2_expect 2 (some .boolean) 2 41 [.ref o0, .int p1] L f (fun (r : Int32) (f9 : Nat → va_E) => GI (okc cI cL cZ cR cG cH L kd) kd L f9 ∧ (0 ≤ r.toInt ∧ r.toInt ≤ 1) ∧ (∀ b, kd b ≠ 2 → f9 b = f b) ∧ (∀ b, kd b = 2 → fldI (f9 b) 4 = fldI (f b) 4) ∧ (∀ b, kd b = 2 → fldR (f9 b) 0 = fldR (f b) 0) ∧ (∀ b, kd b = 2 → fldR (f9 b) 3 = fldR (f b) 3) ∧ (∀ (w5 z5 : Int32), fldI (f o0) 5 = some w5 → fldI (f9 o0) 5 = some z5 → w5.toInt ≤ z5.toInt)) := by
  obtain ⟨dC, dI⟩ := D
  refine Met.ofW (cc := cX2_expect) (maxL := 2) (ret := (some .boolean)) (by decide) rfl ?_
  intro p e s m args below meth c s₁ B hml hv
  obtain ⟨rfl, hP, hK, hD0, hN, hZ⟩ := hv
  have hx := B.exec
  have hb := B.bytes
  have hr := B.returns
  have hU : ∀ w ∈ wsU, w.before _ s = true := fun w h => atoms_spec (ws := wU yX2_expect cX2_expect 2 (some .boolean)) B.pre w (List.mem_cons_of_mem _ h)
  have hown : s.vm.findClass RX2 = some m.cls := findClass_of_methodNamed B.named
  have hlocks := B.notSynchronized
  have hD := pl_in hD0
  have hS : va_S (fun q => q ∈ L) s.heap s.heap [] := va_S.rf
  have hl := lv_entry ([.ref o0, .int p1]) (n := 2) (Nat.le_of_ble_eq_true rfl)
  rw [lg_entry_eq]
  generalize (lg_sl ([.ref o0, .int p1]) ++ List.replicate (2 - (lg_sl ([.ref o0, .int p1])).length) Slot.unset).toArray = ls at hl ⊢
  have hl : lv_has ls 2 [(0, .ref o0), (1, .int p1)] := hl
  have hfr0 : ∀ b, kd b ≠ 2 → f b = f b := fun _ _ => rfl
  have hfr2_4 : ∀ b, kd b = 2 → fldI (f b) 4 = fldI (f b) 4 := fun _ _ => rfl
  have hrr2_0 : ∀ b, kd b = 2 → fldR (f b) 0 = fldR (f b) 0 := fun _ _ => rfl
  have hrr2_3 : ∀ b, kd b = 2 → fldR (f b) 3 = fldR (f b) 3 := fun _ _ => rfl
  obtain ⟨a_2, v_3, v_4, a_5, v_6, v_7, v_8, v_9, v_10, v_11, hfo_1, ⟨ma_2, ka_2⟩, ⟨ma_5, ka_5⟩, bv_6, bv_7, bv_8, bv_9, bv_10⟩ := un_2 (hG _ mo0) ko0
  have bv_3 : ((-2147483648) ≤ v_3.toInt ∧ v_3.toInt ≤ 2147483647) := ⟨i32_lo _, i32_hi _⟩
  have bv_4 : ((-2147483648) ≤ v_4.toInt ∧ v_4.toInt ≤ 2147483647) := ⟨i32_lo _, i32_hi _⟩
  have bv_11 : ((-2147483648) ≤ v_11.toInt ∧ v_11.toInt ≤ 2147483647) := ⟨i32_lo _, i32_hi _⟩
  refine lv_aload_n hx hb dX2_expect_0 rfl (lv_at hl 0 rfl) ?_
  refine lv_iload_n hx hb dX2_expect_1 rfl (lv_at hl 1 rfl) ?_
  refine tk_ViP (As := [.int p1]) (rest := []) (n := 1) hx hb hml hown hU hN hZ (s_X2_skipIf_k2 l (dC, dI) cI cL cZ cR cG cH Z kd L f hG o0 mo0 ko0 p1 (by constructor <;> omega)) wd_384 wd_385 wd_386 wd_33 wd_387 (by decide +kernel) ⟨Nat.le_of_ble_eq_true rfl, Nat.le_of_ble_eq_true rfl⟩ hK hP hD hS mo0 hfo_1 2 rfl rfl rfl hl.1 rfl (Nat.le_of_ble_eq_true rfl) dX2_expect_2 ⟨Nat.le_of_ble_eq_true rfl, Nat.le_of_ble_eq_true rfl⟩ (fun x_12 f_13 H locs hw hP hD hS => ?_)
  obtain ⟨hG, bx_12, hkc_14, hfc_15, hrc_16, hrc_17, hpost_18⟩ := hw
  have hfr0 : ∀ b, kd b ≠ 2 → f_13 b = f b := fun b q2 => (hkc_14 b q2).trans (hfr0 b q2)
  have hfr2_4 : ∀ b, kd b = 2 → fldI (f_13 b) 4 = fldI (f b) 4 := fun b kb => (hfc_15 b kb).trans (hfr2_4 b kb)
  have hrr2_0 : ∀ b, kd b = 2 → fldR (f_13 b) 0 = fldR (f b) 0 := fun b kb => (hrc_16 b kb).trans (hrr2_0 b kb)
  have hrr2_3 : ∀ b, kd b = 2 → fldR (f_13 b) 3 = fldR (f b) 3 := fun b kb => (hrc_17 b kb).trans (hrr2_3 b kb)
  obtain ⟨a_21, v_22, v_23, a_24, v_25, v_26, v_27, v_28, v_29, v_30, hfo_20, ⟨ma_21, ka_21⟩, ⟨ma_24, ka_24⟩, bv_25, bv_26, bv_27, bv_28, bv_29⟩ := un_2 (hG _ mo0) ko0
  have bv_22 : ((-2147483648) ≤ v_22.toInt ∧ v_22.toInt ≤ 2147483647) := ⟨i32_lo _, i32_hi _⟩
  have bv_23 : ((-2147483648) ≤ v_23.toInt ∧ v_23.toInt ≤ 2147483647) := ⟨i32_lo _, i32_hi _⟩
  have bv_30 : ((-2147483648) ≤ v_30.toInt ∧ v_30.toInt ≤ 2147483647) := ⟨i32_lo _, i32_hi _⟩
  obtain rfl : v_6 = v_25 := by have hk9 := hfc_15 o0 ko0; rw [hfo_20, hfo_1] at hk9; exact (Option.some.inj hk9).symm
  obtain rfl : a_2 = a_21 := by have hk9 := hrc_16 o0 ko0; rw [hfo_20, hfo_1] at hk9; exact (Option.some.inj hk9).symm
  obtain rfl : a_5 = a_24 := by have hk9 := hrc_17 o0 ko0; rw [hfo_20, hfo_1] at hk9; exact (Option.some.inj hk9).symm
  have hqhpost_18 := hpost_18 v_7 v_26 (by rw [hfo_1]; rfl) (by rw [hfo_20]; rfl)
  refine lv_if_ne (tgt := 20) hx hb dX2_expect_5 (by decide) (fun c_31 => ?_) (fun c_31 => ?_)
  · skip
    rw [← Int32.toInt_inj, ti_0] at c_31
    refine lv_iconst (v := 1) hx hb dX2_expect_20 (by decide) ?_
    refine lv_goto (tgt := 25) hx hb dX2_expect_21 (by decide) ?_
    exact W.zret (v := 1) (ty := .boolean) hx hb hr rfl (fun t ht hW => ⟨⟨1, f_13, rfl, ⟨hG, (by decide), hfr0, hfr2_4, hrr2_0, hrr2_3, (by intro w5 z5 e5 d5; rw [hfo_1] at e5; rw [hfo_20] at d5; obtain rfl := Option.some.inj e5; obtain rfl := Option.some.inj d5; (try rw [ti_1]) <;> omega)⟩, by rw [ht]; exact hP, va_K.moved hW.alike hK, pl_in hD⟩, hS.F ht⟩) hS.2.2 dX2_expect_25
  · skip
    rw [← Int32.toInt_inj, ti_0] at c_31
    refine lv_aload_n hx hb dX2_expect_8 rfl (lv_at hl 0 rfl) ?_
    refine lv_iconst (v := 1) hx hb dX2_expect_9 (by decide) ?_
    refine lv_aload_n hx hb dX2_expect_10 rfl (lv_at hl 0 rfl) ?_
    refine tk_getP (D := (dC, dI)) (ci := 2) (v := .int v_26) (C := RX2) (T := TX2) (N := 10) hx hb hU inlX2 hown hK hP mo0 hfo_20 rfl 5 (by decide) (hU _ wd_256) (fun _ h9 => h9) rfl dX2_expect_11 ?_
    refine tk_ViP (As := [.int 1, .int v_26]) (rest := []) (n := 2) hx hb hml hown hU hN hZ (s_X2_fail_k2 l (dC, dI) cI cL cZ cR cG cH Z kd L f_13 hG o0 mo0 ko0 1 v_26) wd_349 wd_350 wd_351 wd_33 wd_352 (by decide +kernel) ⟨Nat.le_of_ble_eq_true rfl, Nat.le_of_ble_eq_true rfl⟩ hK hP hD hS mo0 hfo_20 2 rfl rfl rfl hl.1 rfl (Nat.le_of_ble_eq_true rfl) dX2_expect_14 ⟨Nat.le_of_ble_eq_true rfl, Nat.le_of_ble_eq_true rfl⟩ (fun x_32 f_33 H locs hw hP hD hS => ?_)
    obtain ⟨hG, bx_32, hkc_34, hfc_35, hfc_36, hrc_37, hrc_38⟩ := hw
    have hfr0 : ∀ b, kd b ≠ 2 → f_33 b = f b := fun b q2 => (hkc_34 b q2).trans (hfr0 b q2)
    have hfr2_4 : ∀ b, kd b = 2 → fldI (f_33 b) 4 = fldI (f b) 4 := fun b kb => (hfc_35 b kb).trans (hfr2_4 b kb)
    have hrr2_0 : ∀ b, kd b = 2 → fldR (f_33 b) 0 = fldR (f b) 0 := fun b kb => (hrc_37 b kb).trans (hrr2_0 b kb)
    have hrr2_3 : ∀ b, kd b = 2 → fldR (f_33 b) 3 = fldR (f b) 3 := fun b kb => (hrc_38 b kb).trans (hrr2_3 b kb)
    obtain ⟨a_41, v_42, v_43, a_44, v_45, v_46, v_47, v_48, v_49, v_50, hfo_40, ⟨ma_41, ka_41⟩, ⟨ma_44, ka_44⟩, bv_45, bv_46, bv_47, bv_48, bv_49⟩ := un_2 (hG _ mo0) ko0
    have bv_42 : ((-2147483648) ≤ v_42.toInt ∧ v_42.toInt ≤ 2147483647) := ⟨i32_lo _, i32_hi _⟩
    have bv_43 : ((-2147483648) ≤ v_43.toInt ∧ v_43.toInt ≤ 2147483647) := ⟨i32_lo _, i32_hi _⟩
    have bv_50 : ((-2147483648) ≤ v_50.toInt ∧ v_50.toInt ≤ 2147483647) := ⟨i32_lo _, i32_hi _⟩
    obtain rfl : v_6 = v_45 := by have hk9 := hfc_35 o0 ko0; rw [hfo_40, hfo_20] at hk9; exact (Option.some.inj hk9).symm
    obtain rfl : v_26 = v_46 := by have hk9 := hfc_36 o0 ko0; rw [hfo_40, hfo_20] at hk9; exact (Option.some.inj hk9).symm
    obtain rfl : a_2 = a_41 := by have hk9 := hrc_37 o0 ko0; rw [hfo_40, hfo_20] at hk9; exact (Option.some.inj hk9).symm
    obtain rfl : a_5 = a_44 := by have hk9 := hrc_38 o0 ko0; rw [hfo_40, hfo_20] at hk9; exact (Option.some.inj hk9).symm
    refine lv_if_eq (tgt := 24) hx hb dX2_expect_17 (by decide) (fun c_51 => ?_) (fun c_51 => ?_)
    · skip
      rw [← Int32.toInt_inj, ti_0] at c_51
      refine lv_iconst (v := 0) hx hb dX2_expect_24 (by decide) ?_
      exact W.zret (v := 0) (ty := .boolean) hx hb hr rfl (fun t ht hW => ⟨⟨0, f_33, rfl, ⟨hG, (by decide), hfr0, hfr2_4, hrr2_0, hrr2_3, (by intro w5 z5 e5 d5; rw [hfo_1] at e5; rw [hfo_40] at d5; obtain rfl := Option.some.inj e5; obtain rfl := Option.some.inj d5; (try rw [ti_0]) <;> omega)⟩, by rw [ht]; exact hP, va_K.moved hW.alike hK, pl_in hD⟩, hS.F ht⟩) hS.2.2 dX2_expect_25
    · skip
      rw [← Int32.toInt_inj, ti_0] at c_51
      exfalso
      omega
