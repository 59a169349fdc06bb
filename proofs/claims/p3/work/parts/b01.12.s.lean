set_option maxHeartbeats 8000000 in
set_option maxRecDepth 100000 in
theorem s_X2_isNext_k2 (l : Launch) (D : va_G) (cI cL cZ cR cG cH : ClassId) (Z : zT) (kd : Nat → Nat) (L : List Nat) (f : Nat → va_E) (hG : GI (okc cI cL cZ cR cG cH L kd) kd L f) (o0 : Nat) (mo0 : o0 ∈ L) (ko0 : kd o0 = 2) (p1 : Int32) (bp1 : (0 ≤ p1.toInt ∧ p1.toInt ≤ 255)) : mPI l D cI cL cZ cR cG cH Z yX2_isNext cX2_isNext 2 (some .boolean) 1 20 [.ref o0, .int p1] L f (fun (r : Int32) (f9 : Nat → va_E) => GI (okc cI cL cZ cR cG cH L kd) kd L f9 ∧ (0 ≤ r.toInt ∧ r.toInt ≤ 1) ∧ (∀ b, kd b ≠ 2 → f9 b = f b) ∧ (∀ b, kd b = 2 → fldI (f9 b) 4 = fldI (f b) 4) ∧ (∀ b, kd b = 2 → fldI (f9 b) 7 = fldI (f b) 7) ∧ (∀ b, kd b = 2 → fldI (f9 b) 8 = fldI (f b) 8) ∧ (∀ b, kd b = 2 → fldR (f9 b) 0 = fldR (f b) 0) ∧ (∀ b, kd b = 2 → fldR (f9 b) 3 = fldR (f b) 3) ∧ (∀ (w5 z5 : Int32), fldI (f o0) 5 = some w5 → fldI (f9 o0) 5 = some z5 → w5.toInt ≤ z5.toInt ∧ (r.toInt = 0 ∨ z5.toInt ≤ 599))) := by
  obtain ⟨dC, dI⟩ := D
  refine Met.ofW (cc := cX2_isNext) (maxL := 2) (ret := (some .boolean)) (by decide) rfl ?_
  intro p e s m args below meth c s₁ B hml hv
  obtain ⟨rfl, hP, hK, hD0, hN, hZ⟩ := hv
  have hx := B.exec
  have hb := B.bytes
  have hr := B.returns
  have hU : ∀ w ∈ wsU, w.before _ s = true := fun w h => atoms_spec (ws := wU yX2_isNext cX2_isNext 2 (some .boolean)) B.pre w (List.mem_cons_of_mem _ h)
  have hown : s.vm.findClass RX2 = some m.cls := findClass_of_methodNamed B.named
  have hlocks := B.notSynchronized
  have hD := pl_in hD0
  have hS : va_S (fun q => q ∈ L) s.heap s.heap [] := va_S.rf
  have hl := lv_entry ([.ref o0, .int p1]) (n := 2) (Nat.le_of_ble_eq_true rfl)
  rw [lg_entry_eq]
  generalize (lg_sl ([.ref o0, .int p1]) ++ List.replicate (2 - (lg_sl ([.ref o0, .int p1])).length) Slot.unset).toArray = ls at hl ⊢
  have hl : lv_has ls 2 [(0, .ref o0), (1, .int p1)] := hl
  have hfr0 : ∀ b, kd b ≠ 2 → f b = f b := fun _ _ => rfl
  have hfr2_4 : ∀ b, kd b = 2 → fldI (f b) 4 = fldI (f b) 4 := fun _ _ => rfl
  have hfr2_7 : ∀ b, kd b = 2 → fldI (f b) 7 = fldI (f b) 7 := fun _ _ => rfl
  have hfr2_8 : ∀ b, kd b = 2 → fldI (f b) 8 = fldI (f b) 8 := fun _ _ => rfl
  have hrr2_0 : ∀ b, kd b = 2 → fldR (f b) 0 = fldR (f b) 0 := fun _ _ => rfl
  have hrr2_3 : ∀ b, kd b = 2 → fldR (f b) 3 = fldR (f b) 3 := fun _ _ => rfl
  obtain ⟨a_2, v_3, v_4, a_5, v_6, v_7, v_8, v_9, v_10, v_11, hfo_1, ⟨ma_2, ka_2⟩, ⟨ma_5, ka_5⟩, bv_6, bv_7, bv_8, bv_9, bv_10⟩ := un_2 (hG _ mo0) ko0
  have bv_3 : ((-2147483648) ≤ v_3.toInt ∧ v_3.toInt ≤ 2147483647) := ⟨i32_lo _, i32_hi _⟩
  have bv_4 : ((-2147483648) ≤ v_4.toInt ∧ v_4.toInt ≤ 2147483647) := ⟨i32_lo _, i32_hi _⟩
  have bv_11 : ((-2147483648) ≤ v_11.toInt ∧ v_11.toInt ≤ 2147483647) := ⟨i32_lo _, i32_hi _⟩
  refine lv_aload_n hx hb dX2_isNext_0 rfl (lv_at hl 0 rfl) ?_
  refine tk_ViP (As := []) (rest := []) (n := 0) hx hb hml hown hU hN hZ (s_X2_peek_k2 l (dC, dI) cI cL cZ cR cG cH Z kd L f hG o0 mo0 ko0) wd_274 wd_275 wd_276 wd_33 wd_277 (by decide +kernel) ⟨Nat.le_of_ble_eq_true rfl, Nat.le_of_ble_eq_true rfl⟩ hK hP hD hS mo0 hfo_1 2 rfl rfl rfl hl.1 rfl (Nat.le_of_ble_eq_true rfl) dX2_isNext_1 ⟨Nat.le_of_ble_eq_true rfl, Nat.le_of_ble_eq_true rfl⟩ (fun x_12 f_13 H locs hw hP hD hS => ?_)
  obtain ⟨hG, bx_12, hkc_14, hfc_15, hfc_16, hfc_17, hrc_18, hrc_19, hpost_20, hxp_21⟩ := hw
  have hfr0 : ∀ b, kd b ≠ 2 → f_13 b = f b := fun b q2 => (hkc_14 b q2).trans (hfr0 b q2)
  have hfr2_4 : ∀ b, kd b = 2 → fldI (f_13 b) 4 = fldI (f b) 4 := fun b kb => (hfc_15 b kb).trans (hfr2_4 b kb)
  have hfr2_7 : ∀ b, kd b = 2 → fldI (f_13 b) 7 = fldI (f b) 7 := fun b kb => (hfc_16 b kb).trans (hfr2_7 b kb)
  have hfr2_8 : ∀ b, kd b = 2 → fldI (f_13 b) 8 = fldI (f b) 8 := fun b kb => (hfc_17 b kb).trans (hfr2_8 b kb)
  have hrr2_0 : ∀ b, kd b = 2 → fldR (f_13 b) 0 = fldR (f b) 0 := fun b kb => (hrc_18 b kb).trans (hrr2_0 b kb)
  have hrr2_3 : ∀ b, kd b = 2 → fldR (f_13 b) 3 = fldR (f b) 3 := fun b kb => (hrc_19 b kb).trans (hrr2_3 b kb)
  obtain ⟨a_24, v_25, v_26, a_27, v_28, v_29, v_30, v_31, v_32, v_33, hfo_23, ⟨ma_24, ka_24⟩, ⟨ma_27, ka_27⟩, bv_28, bv_29, bv_30, bv_31, bv_32⟩ := un_2 (hG _ mo0) ko0
  have bv_25 : ((-2147483648) ≤ v_25.toInt ∧ v_25.toInt ≤ 2147483647) := ⟨i32_lo _, i32_hi _⟩
  have bv_26 : ((-2147483648) ≤ v_26.toInt ∧ v_26.toInt ≤ 2147483647) := ⟨i32_lo _, i32_hi _⟩
  have bv_33 : ((-2147483648) ≤ v_33.toInt ∧ v_33.toInt ≤ 2147483647) := ⟨i32_lo _, i32_hi _⟩
  obtain rfl : a_2 = a_24 := by have hk9 := hrr2_0 o0 ko0; rw [hfo_23, hfo_1] at hk9; exact (Option.some.inj hk9).symm
  obtain rfl : a_5 = a_27 := by have hk9 := hrr2_3 o0 ko0; rw [hfo_23, hfo_1] at hk9; exact (Option.some.inj hk9).symm
  obtain rfl : v_6 = v_28 := by have hk9 := hfc_15 o0 ko0; rw [hfo_23, hfo_1] at hk9; exact (Option.some.inj hk9).symm
  obtain rfl : v_9 = v_31 := by have hk9 := hfc_16 o0 ko0; rw [hfo_23, hfo_1] at hk9; exact (Option.some.inj hk9).symm
  obtain rfl : v_10 = v_32 := by have hk9 := hfc_17 o0 ko0; rw [hfo_23, hfo_1] at hk9; exact (Option.some.inj hk9).symm
  have hqhpost_20 := hpost_20 v_7 v_29 (by rw [hfo_1]; rfl) (by rw [hfo_23]; rfl)
  obtain ⟨g_35, hfo_34, hbg_35⟩ := un_533 (hG _ ma_5) ka_5
  have hpkx_12 := hxp_21 a_5 g_35 v_29 (by rw [hfo_23]; rfl) hfo_34 (by rw [hfo_23]; rfl)
  refine lv_iload_n hx hb dX2_isNext_4 rfl (lv_at hl 1 rfl) ?_
  refine lv_icmp_ne (tgt := 12) hx hb dX2_isNext_5 (by decide) (fun c_36 => ?_) (fun c_36 => ?_)
  · skip
    rw [← Int32.toInt_inj] at c_36
    refine lv_iconst (v := 0) hx hb dX2_isNext_12 (by decide) ?_
    exact W.zret (v := 0) (ty := .boolean) hx hb hr rfl (fun t ht hW => ⟨⟨0, f_13, rfl, ⟨hG, (by decide), hfr0, hfr2_4, hfr2_7, hfr2_8, hrr2_0, hrr2_3, (by intro w5 z5 e5 d5; rw [hfo_1] at e5; rw [hfo_23] at d5; obtain rfl := Option.some.inj e5; obtain rfl := Option.some.inj d5; (try rw [ti_0]) <;> omega)⟩, by rw [ht]; exact hP, va_K.moved hW.alike hK, pl_in hD⟩, hS.F ht⟩) hS.2.2 dX2_isNext_13
  · skip
    rw [← Int32.toInt_inj] at c_36
    refine lv_iconst (v := 1) hx hb dX2_isNext_8 (by decide) ?_
    refine lv_goto (tgt := 13) hx hb dX2_isNext_9 (by decide) ?_
    exact W.zret (v := 1) (ty := .boolean) hx hb hr rfl (fun t ht hW => ⟨⟨1, f_13, rfl, ⟨hG, (by decide), hfr0, hfr2_4, hfr2_7, hfr2_8, hrr2_0, hrr2_3, (by intro w5 z5 e5 d5; rw [hfo_1] at e5; rw [hfo_23] at d5; obtain rfl := Option.some.inj e5; obtain rfl := Option.some.inj d5; (try rw [ti_1]) <;> omega)⟩, by rw [ht]; exact hP, va_K.moved hW.alike hK, pl_in hD⟩, hS.F ht⟩) hS.2.2 dX2_isNext_13
set_option maxHeartbeats 8000000 in
set_option maxRecDepth 100000 in
theorem s_X2_skipIf_k2 (l : Launch) (D : va_G) (cI cL cZ cR cG cH : ClassId) (Z : zT) (kd : Nat → Nat) (L : List Nat) (f : Nat → va_E) (hG : GI (okc cI cL cZ cR cG cH L kd) kd L f) (o0 : Nat) (mo0 : o0 ∈ L) (ko0 : kd o0 = 2) (p1 : Int32) (bp1 : (0 ≤ p1.toInt ∧ p1.toInt ≤ 255)) : mPI l D cI cL cZ cR cG cH Z yX2_skipIf cX2_skipIf 2 (some .boolean) 1 20 [.ref o0, .int p1] L f (fun (r : Int32) (f9 : Nat → va_E) => GI (okc cI cL cZ cR cG cH L kd) kd L f9 ∧ (0 ≤ r.toInt ∧ r.toInt ≤ 1) ∧ (∀ b, kd b ≠ 2 → f9 b = f b) ∧ (∀ b, kd b = 2 → fldI (f9 b) 4 = fldI (f b) 4) ∧ (∀ b, kd b = 2 → fldI (f9 b) 7 = fldI (f b) 7) ∧ (∀ b, kd b = 2 → fldI (f9 b) 8 = fldI (f b) 8) ∧ (∀ b, kd b = 2 → fldR (f9 b) 0 = fldR (f b) 0) ∧ (∀ b, kd b = 2 → fldR (f9 b) 3 = fldR (f b) 3) ∧ (∀ (w5 z5 : Int32), fldI (f o0) 5 = some w5 → fldI (f9 o0) 5 = some z5 → w5.toInt ≤ z5.toInt)) := by
  obtain ⟨dC, dI⟩ := D
  refine Met.ofW (cc := cX2_skipIf) (maxL := 2) (ret := (some .boolean)) (by decide) rfl ?_
  intro p e s m args below meth c s₁ B hml hv
  obtain ⟨rfl, hP, hK, hD0, hN, hZ⟩ := hv
  have hx := B.exec
  have hb := B.bytes
  have hr := B.returns
  have hU : ∀ w ∈ wsU, w.before _ s = true := fun w h => atoms_spec (ws := wU yX2_skipIf cX2_skipIf 2 (some .boolean)) B.pre w (List.mem_cons_of_mem _ h)
  have hown : s.vm.findClass RX2 = some m.cls := findClass_of_methodNamed B.named
  have hlocks := B.notSynchronized
  have hD := pl_in hD0
  have hS : va_S (fun q => q ∈ L) s.heap s.heap [] := va_S.rf
  have hl := lv_entry ([.ref o0, .int p1]) (n := 2) (Nat.le_of_ble_eq_true rfl)
  rw [lg_entry_eq]
  generalize (lg_sl ([.ref o0, .int p1]) ++ List.replicate (2 - (lg_sl ([.ref o0, .int p1])).length) Slot.unset).toArray = ls at hl ⊢
  have hl : lv_has ls 2 [(0, .ref o0), (1, .int p1)] := hl
  have hfr0 : ∀ b, kd b ≠ 2 → f b = f b := fun _ _ => rfl
  have hfr2_4 : ∀ b, kd b = 2 → fldI (f b) 4 = fldI (f b) 4 := fun _ _ => rfl
  have hfr2_7 : ∀ b, kd b = 2 → fldI (f b) 7 = fldI (f b) 7 := fun _ _ => rfl
  have hfr2_8 : ∀ b, kd b = 2 → fldI (f b) 8 = fldI (f b) 8 := fun _ _ => rfl
  have hrr2_0 : ∀ b, kd b = 2 → fldR (f b) 0 = fldR (f b) 0 := fun _ _ => rfl
  have hrr2_3 : ∀ b, kd b = 2 → fldR (f b) 3 = fldR (f b) 3 := fun _ _ => rfl
  obtain ⟨a_2, v_3, v_4, a_5, v_6, v_7, v_8, v_9, v_10, v_11, hfo_1, ⟨ma_2, ka_2⟩, ⟨ma_5, ka_5⟩, bv_6, bv_7, bv_8, bv_9, bv_10⟩ := un_2 (hG _ mo0) ko0
  have bv_3 : ((-2147483648) ≤ v_3.toInt ∧ v_3.toInt ≤ 2147483647) := ⟨i32_lo _, i32_hi _⟩
  have bv_4 : ((-2147483648) ≤ v_4.toInt ∧ v_4.toInt ≤ 2147483647) := ⟨i32_lo _, i32_hi _⟩
  have bv_11 : ((-2147483648) ≤ v_11.toInt ∧ v_11.toInt ≤ 2147483647) := ⟨i32_lo _, i32_hi _⟩
  refine lv_aload_n hx hb dX2_skipIf_0 rfl (lv_at hl 0 rfl) ?_
  refine tk_ViP (As := []) (rest := []) (n := 0) hx hb hml hown hU hN hZ (s_X2_peek_k2 l (dC, dI) cI cL cZ cR cG cH Z kd L f hG o0 mo0 ko0) wd_274 wd_275 wd_276 wd_33 wd_277 (by decide +kernel) ⟨Nat.le_of_ble_eq_true rfl, Nat.le_of_ble_eq_true rfl⟩ hK hP hD hS mo0 hfo_1 2 rfl rfl rfl hl.1 rfl (Nat.le_of_ble_eq_true rfl) dX2_skipIf_1 ⟨Nat.le_of_ble_eq_true rfl, Nat.le_of_ble_eq_true rfl⟩ (fun x_12 f_13 H locs hw hP hD hS => ?_)
  obtain ⟨hG, bx_12, hkc_14, hfc_15, hfc_16, hfc_17, hrc_18, hrc_19, hpost_20, hxp_21⟩ := hw
  have hfr0 : ∀ b, kd b ≠ 2 → f_13 b = f b := fun b q2 => (hkc_14 b q2).trans (hfr0 b q2)
  have hfr2_4 : ∀ b, kd b = 2 → fldI (f_13 b) 4 = fldI (f b) 4 := fun b kb => (hfc_15 b kb).trans (hfr2_4 b kb)
  have hfr2_7 : ∀ b, kd b = 2 → fldI (f_13 b) 7 = fldI (f b) 7 := fun b kb => (hfc_16 b kb).trans (hfr2_7 b kb)
  have hfr2_8 : ∀ b, kd b = 2 → fldI (f_13 b) 8 = fldI (f b) 8 := fun b kb => (hfc_17 b kb).trans (hfr2_8 b kb)
  have hrr2_0 : ∀ b, kd b = 2 → fldR (f_13 b) 0 = fldR (f b) 0 := fun b kb => (hrc_18 b kb).trans (hrr2_0 b kb)
  have hrr2_3 : ∀ b, kd b = 2 → fldR (f_13 b) 3 = fldR (f b) 3 := fun b kb => (hrc_19 b kb).trans (hrr2_3 b kb)
  obtain ⟨a_24, v_25, v_26, a_27, v_28, v_29, v_30, v_31, v_32, v_33, hfo_23, ⟨ma_24, ka_24⟩, ⟨ma_27, ka_27⟩, bv_28, bv_29, bv_30, bv_31, bv_32⟩ := un_2 (hG _ mo0) ko0
  have bv_25 : ((-2147483648) ≤ v_25.toInt ∧ v_25.toInt ≤ 2147483647) := ⟨i32_lo _, i32_hi _⟩
  have bv_26 : ((-2147483648) ≤ v_26.toInt ∧ v_26.toInt ≤ 2147483647) := ⟨i32_lo _, i32_hi _⟩
  have bv_33 : ((-2147483648) ≤ v_33.toInt ∧ v_33.toInt ≤ 2147483647) := ⟨i32_lo _, i32_hi _⟩
  obtain rfl : a_2 = a_24 := by have hk9 := hrr2_0 o0 ko0; rw [hfo_23, hfo_1] at hk9; exact (Option.some.inj hk9).symm
  obtain rfl : a_5 = a_27 := by have hk9 := hrr2_3 o0 ko0; rw [hfo_23, hfo_1] at hk9; exact (Option.some.inj hk9).symm
  obtain rfl : v_6 = v_28 := by have hk9 := hfc_15 o0 ko0; rw [hfo_23, hfo_1] at hk9; exact (Option.some.inj hk9).symm
  obtain rfl : v_9 = v_31 := by have hk9 := hfc_16 o0 ko0; rw [hfo_23, hfo_1] at hk9; exact (Option.some.inj hk9).symm
  obtain rfl : v_10 = v_32 := by have hk9 := hfc_17 o0 ko0; rw [hfo_23, hfo_1] at hk9; exact (Option.some.inj hk9).symm
  have hqhpost_20 := hpost_20 v_7 v_29 (by rw [hfo_1]; rfl) (by rw [hfo_23]; rfl)
  obtain ⟨g_35, hfo_34, hbg_35⟩ := un_533 (hG _ ma_5) ka_5
  have hpkx_12 := hxp_21 a_5 g_35 v_29 (by rw [hfo_23]; rfl) hfo_34 (by rw [hfo_23]; rfl)
  refine lv_iload_n hx hb dX2_skipIf_4 rfl (lv_at hl 1 rfl) ?_
  refine lv_icmp_eq (tgt := 10) hx hb dX2_skipIf_5 (by decide) (fun c_36 => ?_) (fun c_36 => ?_)
  · skip
    rw [← Int32.toInt_inj] at c_36
    have hclc_37 : (0 ≤ v_29.toInt ∧ v_29.toInt ≤ 599) := by constructor <;> omega
    refine lv_aload_n hx hb dX2_skipIf_10 rfl (lv_at hl 0 rfl) ?_
    refine lv_dup hx hb dX2_skipIf_11 rfl ?_
    refine tk_getP (D := (dC, dI)) (ci := 2) (v := .int v_29) (C := RX2) (T := TX2) (N := 10) hx hb hU inlX2 hown hK hP mo0 hfo_23 rfl 5 (by decide) (hU _ wd_256) (fun _ h9 => h9) rfl dX2_skipIf_12 ?_
    refine lv_iconst (v := 1) hx hb dX2_skipIf_15 (by decide) ?_
    refine lv_iadd hx hb dX2_skipIf_16 ?_
    refine lv_topi (fun x_38 ex_38 => ?_)
    have hx_38 : x_38.toInt = v_29.toInt + 1 := by rw [ex_38, ad_I (by rw [ti_1]; omega) (by rw [ti_1]; omega), ti_1]
    have bx_38 : (1 ≤ x_38.toInt ∧ x_38.toInt ≤ 600) := by constructor <;> omega
    refine tk_putP (D := (dC, dI)) (ci := 2) (v := .int x_38) (ty := .int) (C := RX2) (T := TX2) (N := 10) hx hb hU inlX2 tyX2 tyX2_ok nmX2 hown hK hP hD hS mo0 hfo_23 rfl 5 (by decide) (hU _ wd_256) (fun _ h9 => h9) rfl (by decide +kernel) rfl rfl (Nat.le_of_ble_eq_true rfl) dX2_skipIf_17 (fun H locs hP hD hS => ?_)
    obtain ⟨f_40, ef_40⟩ : ∃ y : Nat → va_E, y = va_up f_13 o0 (.inr (2, [.ref a_2, .int v_25, .int v_26, .ref a_5, .int v_6, .int x_38, .int v_30, .int v_9, .int v_10, .int v_33])) := ⟨_, rfl⟩
    have hP : va_P (dC, dI) vwCl (va_pl L f_40) H := by rw [ef_40]; exact hP
    have hD : va_D (fun q => q ∈ L) (va_pl L f_40) := by rw [ef_40]; exact hD
    have hG : GI (okc cI cL cZ cR cG cH L kd) kd L f_40 := by rw [ef_40]; exact hG.set o0 (mk_2 ko0 ⟨a_2, v_25, v_26, a_5, v_6, x_38, v_30, v_9, v_10, v_33, rfl, ⟨ma_2, ka_2⟩, ⟨ma_5, ka_5⟩, (by constructor <;> omega), (by constructor <;> omega), (by constructor <;> omega), (by constructor <;> omega), (by constructor <;> omega)⟩)
    have hfo_41 : f_40 a_5 = .inl (cI, 600, .inl g_35) := by rw [ef_40, up_ne (kd_ne ko0 ka_5 (by decide))]; exact hfo_34
    have hfr0 : ∀ b, kd b ≠ 2 → f_40 b = f b := fun b q2 => (congrFun ef_40 b).trans ((up_ne (fun e9 => q2 (by rw [e9]; exact ko0))).trans (hfr0 b q2))
    have hfr2_4 : ∀ b, kd b = 2 → fldI (f_40 b) 4 = fldI (f b) 4 := fun b kb => ((congrArg (fun x => fldI x 4) (congrFun ef_40 b)).trans (fk_up (by rw [hfo_23]; rfl) b)).trans (hfr2_4 b kb)
    have hfr2_7 : ∀ b, kd b = 2 → fldI (f_40 b) 7 = fldI (f b) 7 := fun b kb => ((congrArg (fun x => fldI x 7) (congrFun ef_40 b)).trans (fk_up (by rw [hfo_23]; rfl) b)).trans (hfr2_7 b kb)
    have hfr2_8 : ∀ b, kd b = 2 → fldI (f_40 b) 8 = fldI (f b) 8 := fun b kb => ((congrArg (fun x => fldI x 8) (congrFun ef_40 b)).trans (fk_up (by rw [hfo_23]; rfl) b)).trans (hfr2_8 b kb)
    have hrr2_0 : ∀ b, kd b = 2 → fldR (f_40 b) 0 = fldR (f b) 0 := fun b kb => ((congrArg (fun x => fldR x 0) (congrFun ef_40 b)).trans (fr_up (by rw [hfo_23]; rfl) b)).trans (hrr2_0 b kb)
    have hrr2_3 : ∀ b, kd b = 2 → fldR (f_40 b) 3 = fldR (f b) 3 := fun b kb => ((congrArg (fun x => fldR x 3) (congrFun ef_40 b)).trans (fr_up (by rw [hfo_23]; rfl) b)).trans (hrr2_3 b kb)
    have hfo_42 : f_40 o0 = .inr (2, [.ref a_2, .int v_25, .int v_26, .ref a_5, .int v_6, .int x_38, .int v_30, .int v_9, .int v_10, .int v_33]) := by rw [ef_40]; exact up_self
    refine lv_iconst (v := 1) hx hb dX2_skipIf_20 (by decide) ?_
    exact W.zret (v := 1) (ty := .boolean) hx hb hr rfl (fun t ht hW => ⟨⟨1, f_40, rfl, ⟨hG, (by decide), hfr0, hfr2_4, hfr2_7, hfr2_8, hrr2_0, hrr2_3, (by intro w5 z5 e5 d5; rw [hfo_1] at e5; rw [hfo_42] at d5; obtain rfl := Option.some.inj e5; obtain rfl := Option.some.inj d5; (try rw [ti_1]) <;> omega)⟩, by rw [ht]; exact hP, va_K.moved hW.alike hK, pl_in hD⟩, hS.F ht⟩) hS.2.2 dX2_skipIf_21
  · skip
    rw [← Int32.toInt_inj] at c_36
    refine lv_iconst (v := 0) hx hb dX2_skipIf_8 (by decide) ?_
    exact W.zret (v := 0) (ty := .boolean) hx hb hr rfl (fun t ht hW => ⟨⟨0, f_13, rfl, ⟨hG, (by decide), hfr0, hfr2_4, hfr2_7, hfr2_8, hrr2_0, hrr2_3, (by intro w5 z5 e5 d5; rw [hfo_1] at e5; rw [hfo_23] at d5; obtain rfl := Option.some.inj e5; obtain rfl := Option.some.inj d5; (try rw [ti_0]) <;> omega)⟩, by rw [ht]; exact hP, va_K.moved hW.alike hK, pl_in hD⟩, hS.F ht⟩) hS.2.2 dX2_skipIf_9
set_option maxHeartbeats 8000000 in
set_option maxRecDepth 100000 in
theorem s_X2_expect_k2 (l : Launch) (D : va_G) (cI cL cZ cR cG cH : ClassId) (Z : zT) (kd : Nat → Nat) (L : List Nat) (f : Nat → va_E) (hG : GI (okc cI cL cZ cR cG cH L kd) kd L f) (o0 : Nat) (mo0 : o0 ∈ L) (ko0 : kd o0 = 2) (p1 : Int32) (bp1 : (0 ≤ p1.toInt ∧ p1.toInt ≤ 255)) : mPI l D cI cL cZ cR cG cH Z yX2_expect cX2_expect 2 (some .boolean) 2 41 [.ref o0, .int p1] L f (fun (r : Int32) (f9 : Nat → va_E) => GI (okc cI cL cZ cR cG cH L kd) kd L f9 ∧ (0 ≤ r.toInt ∧ r.toInt ≤ 1) ∧ (∀ b, kd b ≠ 2 → f9 b = f b) ∧ (∀ b, kd b = 2 → fldI (f9 b) 4 = fldI (f b) 4) ∧ (∀ b, kd b = 2 → fldI (f9 b) 7 = fldI (f b) 7) ∧ (∀ b, kd b = 2 → fldI (f9 b) 8 = fldI (f b) 8) ∧ (∀ b, kd b = 2 → fldR (f9 b) 0 = fldR (f b) 0) ∧ (∀ b, kd b = 2 → fldR (f9 b) 3 = fldR (f b) 3) ∧ (∀ (w5 z5 : Int32), fldI (f o0) 5 = some w5 → fldI (f9 o0) 5 = some z5 → w5.toInt ≤ z5.toInt)) := by
  obtain ⟨dC, dI⟩ := D
  refine Met.ofW (cc := cX2_expect) (maxL := 2) (ret := (some .boolean)) (by decide) rfl ?_
  intro p e s m args below meth c s₁ B hml hv
  obtain ⟨rfl, hP, hK, hD0, hN, hZ⟩ := hv
  have hx := B.exec
  have hb := B.bytes
  have hr := B.returns
  have hU : ∀ w ∈ wsU, w.before _ s = true := fun w h => atoms_spec (ws := wU yX2_expect cX2_expect 2 (some .boolean)) B.pre w (List.mem_cons_of_mem _ h)
  have hown : s.vm.findClass RX2 = some m.cls := findClass_of_methodNamed B.named
  have hlocks := B.notSynchronized
  have hD := pl_in hD0
  have hS : va_S (fun q => q ∈ L) s.heap s.heap [] := va_S.rf
  have hl := lv_entry ([.ref o0, .int p1]) (n := 2) (Nat.le_of_ble_eq_true rfl)
  rw [lg_entry_eq]
  generalize (lg_sl ([.ref o0, .int p1]) ++ List.replicate (2 - (lg_sl ([.ref o0, .int p1])).length) Slot.unset).toArray = ls at hl ⊢
  have hl : lv_has ls 2 [(0, .ref o0), (1, .int p1)] := hl
  have hfr0 : ∀ b, kd b ≠ 2 → f b = f b := fun _ _ => rfl
  have hfr2_4 : ∀ b, kd b = 2 → fldI (f b) 4 = fldI (f b) 4 := fun _ _ => rfl
  have hfr2_7 : ∀ b, kd b = 2 → fldI (f b) 7 = fldI (f b) 7 := fun _ _ => rfl
  have hfr2_8 : ∀ b, kd b = 2 → fldI (f b) 8 = fldI (f b) 8 := fun _ _ => rfl
  have hrr2_0 : ∀ b, kd b = 2 → fldR (f b) 0 = fldR (f b) 0 := fun _ _ => rfl
  have hrr2_3 : ∀ b, kd b = 2 → fldR (f b) 3 = fldR (f b) 3 := fun _ _ => rfl
  obtain ⟨a_2, v_3, v_4, a_5, v_6, v_7, v_8, v_9, v_10, v_11, hfo_1, ⟨ma_2, ka_2⟩, ⟨ma_5, ka_5⟩, bv_6, bv_7, bv_8, bv_9, bv_10⟩ := un_2 (hG _ mo0) ko0
  have bv_3 : ((-2147483648) ≤ v_3.toInt ∧ v_3.toInt ≤ 2147483647) := ⟨i32_lo _, i32_hi _⟩
  have bv_4 : ((-2147483648) ≤ v_4.toInt ∧ v_4.toInt ≤ 2147483647) := ⟨i32_lo _, i32_hi _⟩
  have bv_11 : ((-2147483648) ≤ v_11.toInt ∧ v_11.toInt ≤ 2147483647) := ⟨i32_lo _, i32_hi _⟩
  refine lv_aload_n hx hb dX2_expect_0 rfl (lv_at hl 0 rfl) ?_
  refine lv_iload_n hx hb dX2_expect_1 rfl (lv_at hl 1 rfl) ?_
  refine tk_ViP (As := [.int p1]) (rest := []) (n := 1) hx hb hml hown hU hN hZ (s_X2_skipIf_k2 l (dC, dI) cI cL cZ cR cG cH Z kd L f hG o0 mo0 ko0 p1 (by constructor <;> omega)) wd_384 wd_385 wd_386 wd_33 wd_387 (by decide +kernel) ⟨Nat.le_of_ble_eq_true rfl, Nat.le_of_ble_eq_true rfl⟩ hK hP hD hS mo0 hfo_1 2 rfl rfl rfl hl.1 rfl (Nat.le_of_ble_eq_true rfl) dX2_expect_2 ⟨Nat.le_of_ble_eq_true rfl, Nat.le_of_ble_eq_true rfl⟩ (fun x_12 f_13 H locs hw hP hD hS => ?_)
  obtain ⟨hG, bx_12, hkc_14, hfc_15, hfc_16, hfc_17, hrc_18, hrc_19, hpost_20⟩ := hw
  have hfr0 : ∀ b, kd b ≠ 2 → f_13 b = f b := fun b q2 => (hkc_14 b q2).trans (hfr0 b q2)
  have hfr2_4 : ∀ b, kd b = 2 → fldI (f_13 b) 4 = fldI (f b) 4 := fun b kb => (hfc_15 b kb).trans (hfr2_4 b kb)
  have hfr2_7 : ∀ b, kd b = 2 → fldI (f_13 b) 7 = fldI (f b) 7 := fun b kb => (hfc_16 b kb).trans (hfr2_7 b kb)
  have hfr2_8 : ∀ b, kd b = 2 → fldI (f_13 b) 8 = fldI (f b) 8 := fun b kb => (hfc_17 b kb).trans (hfr2_8 b kb)
  have hrr2_0 : ∀ b, kd b = 2 → fldR (f_13 b) 0 = fldR (f b) 0 := fun b kb => (hrc_18 b kb).trans (hrr2_0 b kb)
  have hrr2_3 : ∀ b, kd b = 2 → fldR (f_13 b) 3 = fldR (f b) 3 := fun b kb => (hrc_19 b kb).trans (hrr2_3 b kb)
  obtain ⟨a_23, v_24, v_25, a_26, v_27, v_28, v_29, v_30, v_31, v_32, hfo_22, ⟨ma_23, ka_23⟩, ⟨ma_26, ka_26⟩, bv_27, bv_28, bv_29, bv_30, bv_31⟩ := un_2 (hG _ mo0) ko0
  have bv_24 : ((-2147483648) ≤ v_24.toInt ∧ v_24.toInt ≤ 2147483647) := ⟨i32_lo _, i32_hi _⟩
  have bv_25 : ((-2147483648) ≤ v_25.toInt ∧ v_25.toInt ≤ 2147483647) := ⟨i32_lo _, i32_hi _⟩
  have bv_32 : ((-2147483648) ≤ v_32.toInt ∧ v_32.toInt ≤ 2147483647) := ⟨i32_lo _, i32_hi _⟩
  obtain rfl : a_2 = a_23 := by have hk9 := hrr2_0 o0 ko0; rw [hfo_22, hfo_1] at hk9; exact (Option.some.inj hk9).symm
  obtain rfl : a_5 = a_26 := by have hk9 := hrr2_3 o0 ko0; rw [hfo_22, hfo_1] at hk9; exact (Option.some.inj hk9).symm
  obtain rfl : v_6 = v_27 := by have hk9 := hfc_15 o0 ko0; rw [hfo_22, hfo_1] at hk9; exact (Option.some.inj hk9).symm
  obtain rfl : v_9 = v_30 := by have hk9 := hfc_16 o0 ko0; rw [hfo_22, hfo_1] at hk9; exact (Option.some.inj hk9).symm
  obtain rfl : v_10 = v_31 := by have hk9 := hfc_17 o0 ko0; rw [hfo_22, hfo_1] at hk9; exact (Option.some.inj hk9).symm
  have hqhpost_20 := hpost_20 v_7 v_28 (by rw [hfo_1]; rfl) (by rw [hfo_22]; rfl)
  refine lv_if_ne (tgt := 20) hx hb dX2_expect_5 (by decide) (fun c_33 => ?_) (fun c_33 => ?_)
  · skip
    rw [← Int32.toInt_inj, ti_0] at c_33
    refine lv_iconst (v := 1) hx hb dX2_expect_20 (by decide) ?_
    refine lv_goto (tgt := 25) hx hb dX2_expect_21 (by decide) ?_
    exact W.zret (v := 1) (ty := .boolean) hx hb hr rfl (fun t ht hW => ⟨⟨1, f_13, rfl, ⟨hG, (by decide), hfr0, hfr2_4, hfr2_7, hfr2_8, hrr2_0, hrr2_3, (by intro w5 z5 e5 d5; rw [hfo_1] at e5; rw [hfo_22] at d5; obtain rfl := Option.some.inj e5; obtain rfl := Option.some.inj d5; (try rw [ti_1]) <;> omega)⟩, by rw [ht]; exact hP, va_K.moved hW.alike hK, pl_in hD⟩, hS.F ht⟩) hS.2.2 dX2_expect_25
  · skip
    rw [← Int32.toInt_inj, ti_0] at c_33
    refine lv_aload_n hx hb dX2_expect_8 rfl (lv_at hl 0 rfl) ?_
    refine lv_iconst (v := 1) hx hb dX2_expect_9 (by decide) ?_
    refine lv_aload_n hx hb dX2_expect_10 rfl (lv_at hl 0 rfl) ?_
    refine tk_getP (D := (dC, dI)) (ci := 2) (v := .int v_28) (C := RX2) (T := TX2) (N := 10) hx hb hU inlX2 hown hK hP mo0 hfo_22 rfl 5 (by decide) (hU _ wd_256) (fun _ h9 => h9) rfl dX2_expect_11 ?_
    refine tk_ViP (As := [.int 1, .int v_28]) (rest := []) (n := 2) hx hb hml hown hU hN hZ (s_X2_fail_k2 l (dC, dI) cI cL cZ cR cG cH Z kd L f_13 hG o0 mo0 ko0 1 v_28) wd_349 wd_350 wd_351 wd_33 wd_352 (by decide +kernel) ⟨Nat.le_of_ble_eq_true rfl, Nat.le_of_ble_eq_true rfl⟩ hK hP hD hS mo0 hfo_22 2 rfl rfl rfl hl.1 rfl (Nat.le_of_ble_eq_true rfl) dX2_expect_14 ⟨Nat.le_of_ble_eq_true rfl, Nat.le_of_ble_eq_true rfl⟩ (fun x_34 f_35 H locs hw hP hD hS => ?_)
    obtain ⟨hG, bx_34, hkc_36, hfc_37, hfc_38, hfc_39, hfc_40, hrc_41, hrc_42⟩ := hw
    have hfr0 : ∀ b, kd b ≠ 2 → f_35 b = f b := fun b q2 => (hkc_36 b q2).trans (hfr0 b q2)
    have hfr2_4 : ∀ b, kd b = 2 → fldI (f_35 b) 4 = fldI (f b) 4 := fun b kb => (hfc_37 b kb).trans (hfr2_4 b kb)
    have hfr2_7 : ∀ b, kd b = 2 → fldI (f_35 b) 7 = fldI (f b) 7 := fun b kb => (hfc_39 b kb).trans (hfr2_7 b kb)
    have hfr2_8 : ∀ b, kd b = 2 → fldI (f_35 b) 8 = fldI (f b) 8 := fun b kb => (hfc_40 b kb).trans (hfr2_8 b kb)
    have hrr2_0 : ∀ b, kd b = 2 → fldR (f_35 b) 0 = fldR (f b) 0 := fun b kb => (hrc_41 b kb).trans (hrr2_0 b kb)
    have hrr2_3 : ∀ b, kd b = 2 → fldR (f_35 b) 3 = fldR (f b) 3 := fun b kb => (hrc_42 b kb).trans (hrr2_3 b kb)
    obtain ⟨a_45, v_46, v_47, a_48, v_49, v_50, v_51, v_52, v_53, v_54, hfo_44, ⟨ma_45, ka_45⟩, ⟨ma_48, ka_48⟩, bv_49, bv_50, bv_51, bv_52, bv_53⟩ := un_2 (hG _ mo0) ko0
    have bv_46 : ((-2147483648) ≤ v_46.toInt ∧ v_46.toInt ≤ 2147483647) := ⟨i32_lo _, i32_hi _⟩
    have bv_47 : ((-2147483648) ≤ v_47.toInt ∧ v_47.toInt ≤ 2147483647) := ⟨i32_lo _, i32_hi _⟩
    have bv_54 : ((-2147483648) ≤ v_54.toInt ∧ v_54.toInt ≤ 2147483647) := ⟨i32_lo _, i32_hi _⟩
    obtain rfl : a_2 = a_45 := by have hk9 := hrr2_0 o0 ko0; rw [hfo_44, hfo_1] at hk9; exact (Option.some.inj hk9).symm
    obtain rfl : a_5 = a_48 := by have hk9 := hrr2_3 o0 ko0; rw [hfo_44, hfo_1] at hk9; exact (Option.some.inj hk9).symm
    obtain rfl : v_6 = v_49 := by have hk9 := hfc_37 o0 ko0; rw [hfo_44, hfo_22] at hk9; exact (Option.some.inj hk9).symm
    obtain rfl : v_28 = v_50 := by have hk9 := hfc_38 o0 ko0; rw [hfo_44, hfo_22] at hk9; exact (Option.some.inj hk9).symm
    obtain rfl : v_9 = v_52 := by have hk9 := hfc_39 o0 ko0; rw [hfo_44, hfo_22] at hk9; exact (Option.some.inj hk9).symm
    obtain rfl : v_10 = v_53 := by have hk9 := hfc_40 o0 ko0; rw [hfo_44, hfo_22] at hk9; exact (Option.some.inj hk9).symm
    refine lv_if_eq (tgt := 24) hx hb dX2_expect_17 (by decide) (fun c_55 => ?_) (fun c_55 => ?_)
    · skip
      rw [← Int32.toInt_inj, ti_0] at c_55
      refine lv_iconst (v := 0) hx hb dX2_expect_24 (by decide) ?_
      exact W.zret (v := 0) (ty := .boolean) hx hb hr rfl (fun t ht hW => ⟨⟨0, f_35, rfl, ⟨hG, (by decide), hfr0, hfr2_4, hfr2_7, hfr2_8, hrr2_0, hrr2_3, (by intro w5 z5 e5 d5; rw [hfo_1] at e5; rw [hfo_44] at d5; obtain rfl := Option.some.inj e5; obtain rfl := Option.some.inj d5; (try rw [ti_0]) <;> omega)⟩, by rw [ht]; exact hP, va_K.moved hW.alike hK, pl_in hD⟩, hS.F ht⟩) hS.2.2 dX2_expect_25
    · skip
      rw [← Int32.toInt_inj, ti_0] at c_55
      exfalso
      omega
