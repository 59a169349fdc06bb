set_option maxHeartbeats 8000000 in
set_option maxRecDepth 100000 in
theorem s_X3_takeSigns_k3_a507_r (l : Launch) (D : va_G) (cI cL cZ cR cG cH : ClassId) (Z : zT) (kd : Nat → Nat) (L : List Nat) (f : Nat → va_E) (hG : GI (okc cI cL cZ cR cG cH L kd) kd L f) (o0 : Nat) (mo0 : o0 ∈ L) (ko0 : kd o0 = 3) (o1 : Nat) (mo1 : o1 ∈ L) (ko1 : kd o1 = 507) (p2 : Int32) : mPV l D cI cL cZ cR cG cH Z yX3_takeSigns cX3_takeSigns 3 none 1 40 [.ref o0, .ref o1, .int p2] L f (fun (f9 : Nat → va_E) => GI (okc cI cL cZ cR cG cH L kd) kd L f9 ∧ (∀ b, kd b ≠ 3 → kd b ≠ 507 → f9 b = f b) ∧ (∀ b, kd b = 3 → fldR (f9 b) 0 = fldR (f b) 0) ∧ (∀ b, kd b = 3 → fldR (f9 b) 3 = fldR (f b) 3)) := by
  obtain ⟨dC, dI⟩ := D
  refine Met.ofW (cc := cX3_takeSigns) (maxL := 3) (ret := none) (by decide) rfl ?_
  intro p e s m args below meth c s₁ B hml hv
  obtain ⟨rfl, hP, hK, hD0, hN, hZ⟩ := hv
  have hx := B.exec
  have hb := B.bytes
  have hr := B.returns
  have hU : ∀ w ∈ wsU, w.before _ s = true := fun w h => atoms_spec (ws := wU yX3_takeSigns cX3_takeSigns 3 none) B.pre w (List.mem_cons_of_mem _ h)
  have hown : s.vm.findClass RX3 = some m.cls := findClass_of_methodNamed B.named
  have hlocks := B.notSynchronized
  have hD := pl_in hD0
  have hS : va_S (fun q => q ∈ L) s.heap s.heap [] := va_S.rf
  have hl := lv_entry ([.ref o0, .ref o1, .int p2]) (n := 3) (Nat.le_of_ble_eq_true rfl)
  rw [lg_entry_eq]
  generalize (lg_sl ([.ref o0, .ref o1, .int p2]) ++ List.replicate (3 - (lg_sl ([.ref o0, .ref o1, .int p2])).length) Slot.unset).toArray = ls at hl ⊢
  have hl : lv_has ls 3 [(0, .ref o0), (1, .ref o1), (2, .int p2)] := hl
  have bp2 : ((-2147483648) ≤ p2.toInt ∧ p2.toInt ≤ 2147483647) := ⟨i32_lo _, i32_hi _⟩
  have hfr0 : ∀ b, kd b ≠ 3 → kd b ≠ 507 → f b = f b := fun _ _ _ => rfl
  have hrr3_0 : ∀ b, kd b = 3 → fldR (f b) 0 = fldR (f b) 0 := fun _ _ => rfl
  have hrr3_3 : ∀ b, kd b = 3 → fldR (f b) 3 = fldR (f b) 3 := fun _ _ => rfl
  refine lv_aload_n hx hb dX3_takeSigns_0 rfl (lv_at hl 0 rfl) ?_
  refine lv_iconst (v := 0) hx hb dX3_takeSigns_1 (by decide) ?_
  refine lv_iload_n hx hb dX3_takeSigns_2 rfl (lv_at hl 2 rfl) ?_
  refine lv_aload_n hx hb dX3_takeSigns_3 rfl (lv_at hl 1 rfl) ?_
  obtain ⟨g_2, hfo_1, hbg_2⟩ := un_507 (hG _ mo1) ko1
  refine tk_alenP (v := 8) hx hb hK hP 0 mo1 hfo_1 rfl rfl dX3_takeSigns_4 ?_
  refine lv_bipush (v := 8) hx hb dX3_takeSigns_5 (by decide) ?_
  refine va_mmin hx hb (by rw [hml]; exact hl.1.symm) hown (hU _ wd_722) (hU _ wd_248) (hU _ wd_249) (hU _ wd_250) (Nat.le_of_ble_eq_true rfl) (Nat.le_of_ble_eq_true rfl) (Nat.le_of_ble_eq_true rfl) (Nat.le_of_ble_eq_true rfl) dX3_takeSigns_7 ?_
  refine tk_topi (y := 8) (by decide) ?_
  refine va_mmin hx hb (by rw [hml]; exact hl.1.symm) hown (hU _ wd_722) (hU _ wd_248) (hU _ wd_249) (hU _ wd_250) (Nat.le_of_ble_eq_true rfl) (Nat.le_of_ble_eq_true rfl) (Nat.le_of_ble_eq_true rfl) (Nat.le_of_ble_eq_true rfl) dX3_takeSigns_10 ?_
  refine lv_topi (fun x_3 ex_3 => ?_)
  have hx_3 := min_I ex_3
  rw [ti_8] at hx_3
  have bx_3 : ((-2147483648) ≤ x_3.toInt ∧ x_3.toInt ≤ 8) := by constructor <;> omega
  refine va_mmax hx hb (by rw [hml]; exact hl.1.symm) hown (hU _ wd_723) (hU _ wd_724) (hU _ wd_249) (hU _ wd_725) (Nat.le_of_ble_eq_true rfl) (Nat.le_of_ble_eq_true rfl) (Nat.le_of_ble_eq_true rfl) (Nat.le_of_ble_eq_true rfl) dX3_takeSigns_13 ?_
  refine lv_topi (fun x_4 ex_4 => ?_)
  have hx_4 := max_I ex_4
  rw [ti_0] at hx_4
  have bx_4 : (0 ≤ x_4.toInt ∧ x_4.toInt ≤ 8) := by constructor <;> omega
  obtain ⟨a_6, a_7, a_8, a_9, a_10, v_11, v_12, v_13, v_14, v_15, v_16, v_17, a_18, a_19, a_20, v_21, a_22, a_23, hfo_5, ⟨ma_6, ka_6⟩, ⟨ma_7, ka_7⟩, ⟨ma_8, ka_8⟩, ⟨ma_9, ka_9⟩, ⟨ma_10, ka_10⟩, bv_11, bv_12, bv_13, ⟨ma_18, ka_18⟩, ⟨ma_19, ka_19⟩, ⟨ma_20, ka_20⟩, bv_21, ⟨ma_22, ka_22⟩, ⟨ma_23, ka_23⟩⟩ := un_3 (hG _ mo0) ko0
  have bv_14 : ((-2147483648) ≤ v_14.toInt ∧ v_14.toInt ≤ 2147483647) := ⟨i32_lo _, i32_hi _⟩
  have bv_15 : ((-2147483648) ≤ v_15.toInt ∧ v_15.toInt ≤ 2147483647) := ⟨i32_lo _, i32_hi _⟩
  have bv_16 : ((-2147483648) ≤ v_16.toInt ∧ v_16.toInt ≤ 2147483647) := ⟨i32_lo _, i32_hi _⟩
  have bv_17 : ((-2147483648) ≤ v_17.toInt ∧ v_17.toInt ≤ 2147483647) := ⟨i32_lo _, i32_hi _⟩
  refine tk_putP (D := (dC, dI)) (ci := 3) (v := .int x_4) (ty := .int) (C := RX3) (T := TX3) (N := 18) hx hb hU inlX3 tyX3 tyX3_ok nmX3 hown hK hP hD hS mo0 hfo_5 rfl 5 (by decide) (hU _ wd_726) (fun _ h9 => h9) rfl (by decide +kernel) rfl rfl (Nat.le_of_ble_eq_true rfl) dX3_takeSigns_16 (fun H locs hP hD hS => ?_)
  obtain ⟨f_25, ef_25⟩ : ∃ y : Nat → va_E, y = va_up f o0 (.inr (3, [.ref a_6, .ref a_7, .ref a_8, .ref a_9, .ref a_10, .int x_4, .int v_12, .int v_13, .int v_14, .int v_15, .int v_16, .int v_17, .ref a_18, .ref a_19, .ref a_20, .int v_21, .ref a_22, .ref a_23])) := ⟨_, rfl⟩
  have hP : va_P (dC, dI) vwCl (va_pl L f_25) H := by rw [ef_25]; exact hP
  have hD : va_D (fun q => q ∈ L) (va_pl L f_25) := by rw [ef_25]; exact hD
  have hG : GI (okc cI cL cZ cR cG cH L kd) kd L f_25 := by rw [ef_25]; exact hG.set o0 (mk_3 ko0 ⟨a_6, a_7, a_8, a_9, a_10, x_4, v_12, v_13, v_14, v_15, v_16, v_17, a_18, a_19, a_20, v_21, a_22, a_23, rfl, ⟨ma_6, ka_6⟩, ⟨ma_7, ka_7⟩, ⟨ma_8, ka_8⟩, ⟨ma_9, ka_9⟩, ⟨ma_10, ka_10⟩, (by constructor <;> omega), (by constructor <;> omega), (by constructor <;> omega), ⟨ma_18, ka_18⟩, ⟨ma_19, ka_19⟩, ⟨ma_20, ka_20⟩, (by constructor <;> omega), ⟨ma_22, ka_22⟩, ⟨ma_23, ka_23⟩⟩)
  have hfo_26 : f_25 o1 = .inl (cI, 8, .inl g_2) := by rw [ef_25, up_ne (kd_ne ko0 ko1 (by decide))]; exact hfo_1
  have hfr0 : ∀ b, kd b ≠ 3 → kd b ≠ 507 → f_25 b = f b := fun b q3 q507 => (congrFun ef_25 b).trans ((up_ne (fun e9 => q3 (by rw [e9]; exact ko0))).trans (hfr0 b q3 q507))
  have hrr3_0 : ∀ b, kd b = 3 → fldR (f_25 b) 0 = fldR (f b) 0 := fun b kb => ((congrArg (fun x => fldR x 0) (congrFun ef_25 b)).trans (fr_up (by rw [hfo_5]; rfl) b)).trans (hrr3_0 b kb)
  have hrr3_3 : ∀ b, kd b = 3 → fldR (f_25 b) 3 = fldR (f b) 3 := fun b kb => ((congrArg (fun x => fldR x 3) (congrFun ef_25 b)).trans (fr_up (by rw [hfo_5]; rfl) b)).trans (hrr3_3 b kb)
  have hfo_27 : f_25 o0 = .inr (3, [.ref a_6, .ref a_7, .ref a_8, .ref a_9, .ref a_10, .int x_4, .int v_12, .int v_13, .int v_14, .int v_15, .int v_16, .int v_17, .ref a_18, .ref a_19, .ref a_20, .int v_21, .ref a_22, .ref a_23]) := by rw [ef_25]; exact up_self
  refine lv_aload_n hx hb dX3_takeSigns_19 rfl (lv_at hl 1 rfl) ?_
  refine lv_iconst (v := 0) hx hb dX3_takeSigns_20 (by decide) ?_
  refine lv_aload_n hx hb dX3_takeSigns_21 rfl (lv_at hl 0 rfl) ?_
  refine tk_getP (D := (dC, dI)) (ci := 3) (v := .ref a_10) (C := RX3) (T := TX3) (N := 18) hx hb hU inlX3 hown hK hP mo0 hfo_27 rfl 4 (by decide) (hU _ wd_61) (fun _ h9 => h9) rfl dX3_takeSigns_22 ?_
  refine lv_iconst (v := 0) hx hb dX3_takeSigns_25 (by decide) ?_
  refine lv_aload_n hx hb dX3_takeSigns_26 rfl (lv_at hl 0 rfl) ?_
  refine tk_getP (D := (dC, dI)) (ci := 3) (v := .int x_4) (C := RX3) (T := TX3) (N := 18) hx hb hU inlX3 hown hK hP mo0 hfo_27 rfl 5 (by decide) (hU _ wd_726) (fun _ h9 => h9) rfl dX3_takeSigns_27 ?_
  obtain ⟨g_29, hfo_28, hbg_29⟩ := un_507 (hG _ ma_10) ka_10
  refine tk_copyP hx hb (by rw [hml]; exact hl.1.symm) hown (hU _ wd_727) (hU _ wd_253) (hU _ wd_254) (hU _ wd_255) hK hP hD hS 0 mo1 ma_10 hfo_26 hfo_28 rfl (by decide) (by decide) (by rw [Int32.lt_iff_toInt_lt, ti_0]; omega) (cp_ok (by rw [ti_0]; omega) (by omega) (by rw [ti_0]; omega)) (cp_ok (by rw [ti_0]; omega) (by omega) (by rw [ti_0]; omega)) (Nat.le_of_ble_eq_true rfl) (Nat.le_of_ble_eq_true rfl) dX3_takeSigns_30 (fun H locs hP hD hS => ?_)
  obtain ⟨f_31, ef_31⟩ : ∃ y : Nat → va_E, y = va_up f_25 a_10 (.inl (cI, 8, .inl (va_cpy g_2 g_29 (Int32.toNatClampNeg 0) (Int32.toNatClampNeg 0) (Int32.toNatClampNeg x_4)))) := ⟨_, rfl⟩
  have hP : va_P (dC, dI) vwCl (va_pl L f_31) H := by rw [ef_31]; exact hP
  have hD : va_D (fun q => q ∈ L) (va_pl L f_31) := by rw [ef_31]; exact hD
  have hG : GI (okc cI cL cZ cR cG cH L kd) kd L f_31 := by rw [ef_31]; exact hG.set a_10 (mk_507 ka_10 ⟨_, rfl, okI_cpy (fun j => by have := hbg_2 j; constructor <;> omega) hbg_29 _ _ _⟩)
  have hfo_32 : f_31 o0 = .inr (3, [.ref a_6, .ref a_7, .ref a_8, .ref a_9, .ref a_10, .int x_4, .int v_12, .int v_13, .int v_14, .int v_15, .int v_16, .int v_17, .ref a_18, .ref a_19, .ref a_20, .int v_21, .ref a_22, .ref a_23]) := by rw [ef_31, up_ne (kd_ne ka_10 ko0 (by decide))]; exact hfo_27
  have hfr0 : ∀ b, kd b ≠ 3 → kd b ≠ 507 → f_31 b = f b := fun b q3 q507 => (congrFun ef_31 b).trans ((up_ne (fun e9 => q507 (by rw [e9]; exact ka_10))).trans (hfr0 b q3 q507))
  have hrr3_0 : ∀ b, kd b = 3 → fldR (f_31 b) 0 = fldR (f b) 0 := fun b kb => (congrArg (fun x => fldR x 0) ((congrFun ef_31 b).trans (up_ne (kd_ne ka_10 kb (by decide))))).trans (hrr3_0 b kb)
  have hrr3_3 : ∀ b, kd b = 3 → fldR (f_31 b) 3 = fldR (f b) 3 := fun b kb => (congrArg (fun x => fldR x 3) ((congrFun ef_31 b).trans (up_ne (kd_ne ka_10 kb (by decide))))).trans (hrr3_3 b kb)
  have hfo_33 : f_31 a_10 = .inl (cI, 8, .inl (va_cpy g_2 g_29 (Int32.toNatClampNeg 0) (Int32.toNatClampNeg 0) (Int32.toNatClampNeg x_4))) := by rw [ef_31]; exact up_self
  exact W.vret hx hb hr (fun t ht hW => ⟨⟨f_31, rfl, ⟨hG, hfr0, hrr3_0, hrr3_3⟩, by rw [ht]; exact hP, va_K.moved hW.alike hK, pl_in hD⟩, hS.F ht⟩) hS.2.2 dX3_takeSigns_33
set_option maxHeartbeats 8000000 in
set_option maxRecDepth 100000 in
theorem s_X3_takeSigns_k3_a538_r (l : Launch) (D : va_G) (cI cL cZ cR cG cH : ClassId) (Z : zT) (kd : Nat → Nat) (L : List Nat) (f : Nat → va_E) (hG : GI (okc cI cL cZ cR cG cH L kd) kd L f) (o0 : Nat) (mo0 : o0 ∈ L) (ko0 : kd o0 = 3) (o1 : Nat) (mo1 : o1 ∈ L) (ko1 : kd o1 = 538) (p2 : Int32) : mPV l D cI cL cZ cR cG cH Z yX3_takeSigns cX3_takeSigns 3 none 1 40 [.ref o0, .ref o1, .int p2] L f (fun (f9 : Nat → va_E) => GI (okc cI cL cZ cR cG cH L kd) kd L f9 ∧ (∀ b, kd b ≠ 3 → kd b ≠ 507 → f9 b = f b) ∧ (∀ b, kd b = 3 → fldR (f9 b) 0 = fldR (f b) 0) ∧ (∀ b, kd b = 3 → fldR (f9 b) 3 = fldR (f b) 3)) := by
  obtain ⟨dC, dI⟩ := D
  refine Met.ofW (cc := cX3_takeSigns) (maxL := 3) (ret := none) (by decide) rfl ?_
  intro p e s m args below meth c s₁ B hml hv
  obtain ⟨rfl, hP, hK, hD0, hN, hZ⟩ := hv
  have hx := B.exec
  have hb := B.bytes
  have hr := B.returns
  have hU : ∀ w ∈ wsU, w.before _ s = true := fun w h => atoms_spec (ws := wU yX3_takeSigns cX3_takeSigns 3 none) B.pre w (List.mem_cons_of_mem _ h)
  have hown : s.vm.findClass RX3 = some m.cls := findClass_of_methodNamed B.named
  have hlocks := B.notSynchronized
  have hD := pl_in hD0
  have hS : va_S (fun q => q ∈ L) s.heap s.heap [] := va_S.rf
  have hl := lv_entry ([.ref o0, .ref o1, .int p2]) (n := 3) (Nat.le_of_ble_eq_true rfl)
  rw [lg_entry_eq]
  generalize (lg_sl ([.ref o0, .ref o1, .int p2]) ++ List.replicate (3 - (lg_sl ([.ref o0, .ref o1, .int p2])).length) Slot.unset).toArray = ls at hl ⊢
  have hl : lv_has ls 3 [(0, .ref o0), (1, .ref o1), (2, .int p2)] := hl
  have bp2 : ((-2147483648) ≤ p2.toInt ∧ p2.toInt ≤ 2147483647) := ⟨i32_lo _, i32_hi _⟩
  have hfr0 : ∀ b, kd b ≠ 3 → kd b ≠ 507 → f b = f b := fun _ _ _ => rfl
  have hrr3_0 : ∀ b, kd b = 3 → fldR (f b) 0 = fldR (f b) 0 := fun _ _ => rfl
  have hrr3_3 : ∀ b, kd b = 3 → fldR (f b) 3 = fldR (f b) 3 := fun _ _ => rfl
  refine lv_aload_n hx hb dX3_takeSigns_0 rfl (lv_at hl 0 rfl) ?_
  refine lv_iconst (v := 0) hx hb dX3_takeSigns_1 (by decide) ?_
  refine lv_iload_n hx hb dX3_takeSigns_2 rfl (lv_at hl 2 rfl) ?_
  refine lv_aload_n hx hb dX3_takeSigns_3 rfl (lv_at hl 1 rfl) ?_
  obtain ⟨g_2, hfo_1, hbg_2⟩ := un_538 (hG _ mo1) ko1
  refine tk_alenP (v := 2) hx hb hK hP 0 mo1 hfo_1 rfl rfl dX3_takeSigns_4 ?_
  refine lv_bipush (v := 8) hx hb dX3_takeSigns_5 (by decide) ?_
  refine va_mmin hx hb (by rw [hml]; exact hl.1.symm) hown (hU _ wd_722) (hU _ wd_248) (hU _ wd_249) (hU _ wd_250) (Nat.le_of_ble_eq_true rfl) (Nat.le_of_ble_eq_true rfl) (Nat.le_of_ble_eq_true rfl) (Nat.le_of_ble_eq_true rfl) dX3_takeSigns_7 ?_
  refine tk_topi (y := 2) (by decide) ?_
  refine va_mmin hx hb (by rw [hml]; exact hl.1.symm) hown (hU _ wd_722) (hU _ wd_248) (hU _ wd_249) (hU _ wd_250) (Nat.le_of_ble_eq_true rfl) (Nat.le_of_ble_eq_true rfl) (Nat.le_of_ble_eq_true rfl) (Nat.le_of_ble_eq_true rfl) dX3_takeSigns_10 ?_
  refine lv_topi (fun x_3 ex_3 => ?_)
  have hx_3 := min_I ex_3
  rw [ti_2] at hx_3
  have bx_3 : ((-2147483648) ≤ x_3.toInt ∧ x_3.toInt ≤ 2) := by constructor <;> omega
  refine va_mmax hx hb (by rw [hml]; exact hl.1.symm) hown (hU _ wd_723) (hU _ wd_724) (hU _ wd_249) (hU _ wd_725) (Nat.le_of_ble_eq_true rfl) (Nat.le_of_ble_eq_true rfl) (Nat.le_of_ble_eq_true rfl) (Nat.le_of_ble_eq_true rfl) dX3_takeSigns_13 ?_
  refine lv_topi (fun x_4 ex_4 => ?_)
  have hx_4 := max_I ex_4
  rw [ti_0] at hx_4
  have bx_4 : (0 ≤ x_4.toInt ∧ x_4.toInt ≤ 2) := by constructor <;> omega
  obtain ⟨a_6, a_7, a_8, a_9, a_10, v_11, v_12, v_13, v_14, v_15, v_16, v_17, a_18, a_19, a_20, v_21, a_22, a_23, hfo_5, ⟨ma_6, ka_6⟩, ⟨ma_7, ka_7⟩, ⟨ma_8, ka_8⟩, ⟨ma_9, ka_9⟩, ⟨ma_10, ka_10⟩, bv_11, bv_12, bv_13, ⟨ma_18, ka_18⟩, ⟨ma_19, ka_19⟩, ⟨ma_20, ka_20⟩, bv_21, ⟨ma_22, ka_22⟩, ⟨ma_23, ka_23⟩⟩ := un_3 (hG _ mo0) ko0
  have bv_14 : ((-2147483648) ≤ v_14.toInt ∧ v_14.toInt ≤ 2147483647) := ⟨i32_lo _, i32_hi _⟩
  have bv_15 : ((-2147483648) ≤ v_15.toInt ∧ v_15.toInt ≤ 2147483647) := ⟨i32_lo _, i32_hi _⟩
  have bv_16 : ((-2147483648) ≤ v_16.toInt ∧ v_16.toInt ≤ 2147483647) := ⟨i32_lo _, i32_hi _⟩
  have bv_17 : ((-2147483648) ≤ v_17.toInt ∧ v_17.toInt ≤ 2147483647) := ⟨i32_lo _, i32_hi _⟩
  refine tk_putP (D := (dC, dI)) (ci := 3) (v := .int x_4) (ty := .int) (C := RX3) (T := TX3) (N := 18) hx hb hU inlX3 tyX3 tyX3_ok nmX3 hown hK hP hD hS mo0 hfo_5 rfl 5 (by decide) (hU _ wd_726) (fun _ h9 => h9) rfl (by decide +kernel) rfl rfl (Nat.le_of_ble_eq_true rfl) dX3_takeSigns_16 (fun H locs hP hD hS => ?_)
  obtain ⟨f_25, ef_25⟩ : ∃ y : Nat → va_E, y = va_up f o0 (.inr (3, [.ref a_6, .ref a_7, .ref a_8, .ref a_9, .ref a_10, .int x_4, .int v_12, .int v_13, .int v_14, .int v_15, .int v_16, .int v_17, .ref a_18, .ref a_19, .ref a_20, .int v_21, .ref a_22, .ref a_23])) := ⟨_, rfl⟩
  have hP : va_P (dC, dI) vwCl (va_pl L f_25) H := by rw [ef_25]; exact hP
  have hD : va_D (fun q => q ∈ L) (va_pl L f_25) := by rw [ef_25]; exact hD
  have hG : GI (okc cI cL cZ cR cG cH L kd) kd L f_25 := by rw [ef_25]; exact hG.set o0 (mk_3 ko0 ⟨a_6, a_7, a_8, a_9, a_10, x_4, v_12, v_13, v_14, v_15, v_16, v_17, a_18, a_19, a_20, v_21, a_22, a_23, rfl, ⟨ma_6, ka_6⟩, ⟨ma_7, ka_7⟩, ⟨ma_8, ka_8⟩, ⟨ma_9, ka_9⟩, ⟨ma_10, ka_10⟩, (by constructor <;> omega), (by constructor <;> omega), (by constructor <;> omega), ⟨ma_18, ka_18⟩, ⟨ma_19, ka_19⟩, ⟨ma_20, ka_20⟩, (by constructor <;> omega), ⟨ma_22, ka_22⟩, ⟨ma_23, ka_23⟩⟩)
  have hfo_26 : f_25 o1 = .inl (cI, 2, .inl g_2) := by rw [ef_25, up_ne (kd_ne ko0 ko1 (by decide))]; exact hfo_1
  have hfr0 : ∀ b, kd b ≠ 3 → kd b ≠ 507 → f_25 b = f b := fun b q3 q507 => (congrFun ef_25 b).trans ((up_ne (fun e9 => q3 (by rw [e9]; exact ko0))).trans (hfr0 b q3 q507))
  have hrr3_0 : ∀ b, kd b = 3 → fldR (f_25 b) 0 = fldR (f b) 0 := fun b kb => ((congrArg (fun x => fldR x 0) (congrFun ef_25 b)).trans (fr_up (by rw [hfo_5]; rfl) b)).trans (hrr3_0 b kb)
  have hrr3_3 : ∀ b, kd b = 3 → fldR (f_25 b) 3 = fldR (f b) 3 := fun b kb => ((congrArg (fun x => fldR x 3) (congrFun ef_25 b)).trans (fr_up (by rw [hfo_5]; rfl) b)).trans (hrr3_3 b kb)
  have hfo_27 : f_25 o0 = .inr (3, [.ref a_6, .ref a_7, .ref a_8, .ref a_9, .ref a_10, .int x_4, .int v_12, .int v_13, .int v_14, .int v_15, .int v_16, .int v_17, .ref a_18, .ref a_19, .ref a_20, .int v_21, .ref a_22, .ref a_23]) := by rw [ef_25]; exact up_self
  refine lv_aload_n hx hb dX3_takeSigns_19 rfl (lv_at hl 1 rfl) ?_
  refine lv_iconst (v := 0) hx hb dX3_takeSigns_20 (by decide) ?_
  refine lv_aload_n hx hb dX3_takeSigns_21 rfl (lv_at hl 0 rfl) ?_
  refine tk_getP (D := (dC, dI)) (ci := 3) (v := .ref a_10) (C := RX3) (T := TX3) (N := 18) hx hb hU inlX3 hown hK hP mo0 hfo_27 rfl 4 (by decide) (hU _ wd_61) (fun _ h9 => h9) rfl dX3_takeSigns_22 ?_
  refine lv_iconst (v := 0) hx hb dX3_takeSigns_25 (by decide) ?_
  refine lv_aload_n hx hb dX3_takeSigns_26 rfl (lv_at hl 0 rfl) ?_
  refine tk_getP (D := (dC, dI)) (ci := 3) (v := .int x_4) (C := RX3) (T := TX3) (N := 18) hx hb hU inlX3 hown hK hP mo0 hfo_27 rfl 5 (by decide) (hU _ wd_726) (fun _ h9 => h9) rfl dX3_takeSigns_27 ?_
  obtain ⟨g_29, hfo_28, hbg_29⟩ := un_507 (hG _ ma_10) ka_10
  refine tk_copyP hx hb (by rw [hml]; exact hl.1.symm) hown (hU _ wd_727) (hU _ wd_253) (hU _ wd_254) (hU _ wd_255) hK hP hD hS 0 mo1 ma_10 hfo_26 hfo_28 rfl (by decide) (by decide) (by rw [Int32.lt_iff_toInt_lt, ti_0]; omega) (cp_ok (by rw [ti_0]; omega) (by omega) (by rw [ti_0]; omega)) (cp_ok (by rw [ti_0]; omega) (by omega) (by rw [ti_0]; omega)) (Nat.le_of_ble_eq_true rfl) (Nat.le_of_ble_eq_true rfl) dX3_takeSigns_30 (fun H locs hP hD hS => ?_)
  obtain ⟨f_31, ef_31⟩ : ∃ y : Nat → va_E, y = va_up f_25 a_10 (.inl (cI, 8, .inl (va_cpy g_2 g_29 (Int32.toNatClampNeg 0) (Int32.toNatClampNeg 0) (Int32.toNatClampNeg x_4)))) := ⟨_, rfl⟩
  have hP : va_P (dC, dI) vwCl (va_pl L f_31) H := by rw [ef_31]; exact hP
  have hD : va_D (fun q => q ∈ L) (va_pl L f_31) := by rw [ef_31]; exact hD
  have hG : GI (okc cI cL cZ cR cG cH L kd) kd L f_31 := by rw [ef_31]; exact hG.set a_10 (mk_507 ka_10 ⟨_, rfl, okI_cpy (fun j => by have := hbg_2 j; constructor <;> omega) hbg_29 _ _ _⟩)
  have hfo_32 : f_31 o1 = .inl (cI, 2, .inl g_2) := by rw [ef_31, up_ne (kd_ne ka_10 ko1 (by decide))]; exact hfo_26
  have hfo_33 : f_31 o0 = .inr (3, [.ref a_6, .ref a_7, .ref a_8, .ref a_9, .ref a_10, .int x_4, .int v_12, .int v_13, .int v_14, .int v_15, .int v_16, .int v_17, .ref a_18, .ref a_19, .ref a_20, .int v_21, .ref a_22, .ref a_23]) := by rw [ef_31, up_ne (kd_ne ka_10 ko0 (by decide))]; exact hfo_27
  have hfr0 : ∀ b, kd b ≠ 3 → kd b ≠ 507 → f_31 b = f b := fun b q3 q507 => (congrFun ef_31 b).trans ((up_ne (fun e9 => q507 (by rw [e9]; exact ka_10))).trans (hfr0 b q3 q507))
  have hrr3_0 : ∀ b, kd b = 3 → fldR (f_31 b) 0 = fldR (f b) 0 := fun b kb => (congrArg (fun x => fldR x 0) ((congrFun ef_31 b).trans (up_ne (kd_ne ka_10 kb (by decide))))).trans (hrr3_0 b kb)
  have hrr3_3 : ∀ b, kd b = 3 → fldR (f_31 b) 3 = fldR (f b) 3 := fun b kb => (congrArg (fun x => fldR x 3) ((congrFun ef_31 b).trans (up_ne (kd_ne ka_10 kb (by decide))))).trans (hrr3_3 b kb)
  have hfo_34 : f_31 a_10 = .inl (cI, 8, .inl (va_cpy g_2 g_29 (Int32.toNatClampNeg 0) (Int32.toNatClampNeg 0) (Int32.toNatClampNeg x_4))) := by rw [ef_31]; exact up_self
  exact W.vret hx hb hr (fun t ht hW => ⟨⟨f_31, rfl, ⟨hG, hfr0, hrr3_0, hrr3_3⟩, by rw [ht]; exact hP, va_K.moved hW.alike hK, pl_in hD⟩, hS.F ht⟩) hS.2.2 dX3_takeSigns_33
set_option maxHeartbeats 8000000 in
set_option maxRecDepth 100000 in
theorem s_X3_takeNumbered_k3_r (l : Launch) (D : va_G) (cI cL cZ cR cG cH : ClassId) (Z : zT) (kd : Nat → Nat) (L : List Nat) (f : Nat → va_E) (hG : GI (okc cI cL cZ cR cG cH L kd) kd L f) (o0 : Nat) (mo0 : o0 ∈ L) (ko0 : kd o0 = 3) (p1 : Int32) (p2 : Int32) (bp2 : (0 ≤ p2.toInt ∧ p2.toInt ≤ 2147483647)) : mPV l D cI cL cZ cR cG cH Z yX3_takeNumbered cX3_takeNumbered 6 none 1 40 [.ref o0, .int p1, .int p2] L f (fun (f9 : Nat → va_E) => GI (okc cI cL cZ cR cG cH L kd) kd L f9 ∧ (∀ b, kd b ≠ 3 → kd b ≠ 507 → f9 b = f b) ∧ (∀ b, kd b = 3 → fldR (f9 b) 0 = fldR (f b) 0) ∧ (∀ b, kd b = 3 → fldR (f9 b) 3 = fldR (f b) 3)) := by
  obtain ⟨dC, dI⟩ := D
  refine Met.ofW (cc := cX3_takeNumbered) (maxL := 6) (ret := none) (by decide) rfl ?_
  intro p e s m args below meth c s₁ B hml hv
  obtain ⟨rfl, hP, hK, hD0, hN, hZ⟩ := hv
  have hx := B.exec
  have hb := B.bytes
  have hr := B.returns
  have hU : ∀ w ∈ wsU, w.before _ s = true := fun w h => atoms_spec (ws := wU yX3_takeNumbered cX3_takeNumbered 6 none) B.pre w (List.mem_cons_of_mem _ h)
  have hown : s.vm.findClass RX3 = some m.cls := findClass_of_methodNamed B.named
  have hlocks := B.notSynchronized
  have hD := pl_in hD0
  have hS : va_S (fun q => q ∈ L) s.heap s.heap [] := va_S.rf
  have hl := lv_entry ([.ref o0, .int p1, .int p2]) (n := 6) (Nat.le_of_ble_eq_true rfl)
  rw [lg_entry_eq]
  generalize (lg_sl ([.ref o0, .int p1, .int p2]) ++ List.replicate (6 - (lg_sl ([.ref o0, .int p1, .int p2])).length) Slot.unset).toArray = ls at hl ⊢
  have hl : lv_has ls 6 [(0, .ref o0), (1, .int p1), (2, .int p2)] := hl
  have bp1 : ((-2147483648) ≤ p1.toInt ∧ p1.toInt ≤ 2147483647) := ⟨i32_lo _, i32_hi _⟩
  have hfr0 : ∀ b, kd b ≠ 3 → kd b ≠ 507 → f b = f b := fun _ _ _ => rfl
  have hrr3_0 : ∀ b, kd b = 3 → fldR (f b) 0 = fldR (f b) 0 := fun _ _ => rfl
  have hrr3_3 : ∀ b, kd b = 3 → fldR (f b) 3 = fldR (f b) 3 := fun _ _ => rfl
  refine lv_iload_n hx hb dX3_takeNumbered_0 rfl (lv_at hl 2 rfl) ?_
  refine lv_istore_n (lv' := [(3, .int p2), (0, .ref o0), (1, .int p1), (2, .int p2)]) hx hb dX3_takeNumbered_1 rfl hl (by decide) rfl (fun ls hl => ?_)
  refine lv_iconst (v := 1) hx hb dX3_takeNumbered_2 (by decide) ?_
  refine lv_aload_n hx hb dX3_takeNumbered_3 rfl (lv_at hl 1 rfl) ?_
  obtain ⟨a_2, a_3, a_4, a_5, a_6, v_7, v_8, v_9, v_10, v_11, v_12, v_13, a_14, a_15, a_16, v_17, a_18, a_19, hfo_1, ⟨ma_2, ka_2⟩, ⟨ma_3, ka_3⟩, ⟨ma_4, ka_4⟩, ⟨ma_5, ka_5⟩, ⟨ma_6, ka_6⟩, bv_7, bv_8, bv_9, ⟨ma_14, ka_14⟩, ⟨ma_15, ka_15⟩, ⟨ma_16, ka_16⟩, bv_17, ⟨ma_18, ka_18⟩, ⟨ma_19, ka_19⟩⟩ := un_3 (hG _ mo0) ko0
  have bv_10 : ((-2147483648) ≤ v_10.toInt ∧ v_10.toInt ≤ 2147483647) := ⟨i32_lo _, i32_hi _⟩
  have bv_11 : ((-2147483648) ≤ v_11.toInt ∧ v_11.toInt ≤ 2147483647) := ⟨i32_lo _, i32_hi _⟩
  have bv_12 : ((-2147483648) ≤ v_12.toInt ∧ v_12.toInt ≤ 2147483647) := ⟨i32_lo _, i32_hi _⟩
  have bv_13 : ((-2147483648) ≤ v_13.toInt ∧ v_13.toInt ≤ 2147483647) := ⟨i32_lo _, i32_hi _⟩
  refine tk_getP (D := (dC, dI)) (ci := 3) (v := .ref a_2) (C := RX3) (T := TX3) (N := 18) hx hb hU inlX3 hown hK hP mo0 hfo_1 rfl 0 (by decide) (hU _ wd_48) (fun _ h9 => h9) rfl dX3_takeNumbered_4 ?_
  obtain ⟨a_21, v_22, a_23, a_24, a_25, a_26, v_27, a_28, a_29, a_30, a_31, a_32, v_33, a_34, a_35, a_36, hfo_20, ⟨ma_21, ka_21⟩, bv_22, ⟨ma_23, ka_23⟩, ⟨ma_24, ka_24⟩, ⟨ma_25, ka_25⟩, ⟨ma_26, ka_26⟩, bv_27, ⟨ma_28, ka_28⟩, ⟨ma_29, ka_29⟩, ⟨ma_30, ka_30⟩, ⟨ma_31, ka_31⟩, ⟨ma_32, ka_32⟩, bv_33, ⟨ma_34, ka_34⟩, ⟨ma_35, ka_35⟩, ⟨ma_36, ka_36⟩⟩ := un_7 (hG _ ma_2) ka_2
  refine tk_getP (D := (dC, dI)) (ci := 7) (v := .int v_22) (C := RX7) (T := TX7) (N := 16) hx hb hU inlX7 hown hK hP ma_2 hfo_20 rfl 1 (by decide) (hU _ wd_1156) (fun _ h9 => h9) rfl dX3_takeNumbered_7 ?_
  refine va_mmax hx hb (by rw [hml]; exact hl.1.symm) hown (hU _ wd_723) (hU _ wd_724) (hU _ wd_249) (hU _ wd_725) (Nat.le_of_ble_eq_true rfl) (Nat.le_of_ble_eq_true rfl) (Nat.le_of_ble_eq_true rfl) (Nat.le_of_ble_eq_true rfl) dX3_takeNumbered_10 ?_
  refine lv_topi (fun x_37 ex_37 => ?_)
  have hx_37 := max_I ex_37
  rw [ti_1] at hx_37
  have bx_37 : (1 ≤ x_37.toInt ∧ x_37.toInt ≤ 8) := by constructor <;> omega
  refine lv_istore (lv' := [(4, .int x_37), (3, .int p2), (0, .ref o0), (1, .int p1), (2, .int p2)]) hx hb dX3_takeNumbered_13 hl (by decide) rfl (fun ls hl => ?_)
  refine lv_aload_n hx hb dX3_takeNumbered_15 rfl (lv_at hl 2 rfl) ?_
  refine lv_iconst (v := 0) hx hb dX3_takeNumbered_16 (by decide) ?_
  refine lv_iload_n hx hb dX3_takeNumbered_17 rfl (lv_at hl 3 rfl) ?_
  refine lv_bipush (v := 8) hx hb dX3_takeNumbered_18 (by decide) ?_
  refine va_mmin hx hb (by rw [hml]; exact hl.1.symm) hown (hU _ wd_722) (hU _ wd_248) (hU _ wd_249) (hU _ wd_250) (Nat.le_of_ble_eq_true rfl) (Nat.le_of_ble_eq_true rfl) (Nat.le_of_ble_eq_true rfl) (Nat.le_of_ble_eq_true rfl) dX3_takeNumbered_20 ?_
  refine lv_topi (fun x_38 ex_38 => ?_)
  have hx_38 := min_I ex_38
  rw [ti_8] at hx_38
  have bx_38 : ((-2147483648) ≤ x_38.toInt ∧ x_38.toInt ≤ 8) := by constructor <;> omega
  refine va_mmax hx hb (by rw [hml]; exact hl.1.symm) hown (hU _ wd_723) (hU _ wd_724) (hU _ wd_249) (hU _ wd_725) (Nat.le_of_ble_eq_true rfl) (Nat.le_of_ble_eq_true rfl) (Nat.le_of_ble_eq_true rfl) (Nat.le_of_ble_eq_true rfl) dX3_takeNumbered_23 ?_
  refine lv_topi (fun x_39 ex_39 => ?_)
  have hx_39 := max_I ex_39
  rw [ti_0] at hx_39
  have bx_39 : (0 ≤ x_39.toInt ∧ x_39.toInt ≤ 8) := by constructor <;> omega
  refine tk_putP (D := (dC, dI)) (ci := 3) (v := .int x_39) (ty := .int) (C := RX3) (T := TX3) (N := 18) hx hb hU inlX3 tyX3 tyX3_ok nmX3 hown hK hP hD hS mo0 hfo_1 rfl 5 (by decide) (hU _ wd_726) (fun _ h9 => h9) rfl (by decide +kernel) rfl rfl (Nat.le_of_ble_eq_true rfl) dX3_takeNumbered_26 (fun H locs hP hD hS => ?_)
  obtain ⟨f_41, ef_41⟩ : ∃ y : Nat → va_E, y = va_up f o0 (.inr (3, [.ref a_2, .ref a_3, .ref a_4, .ref a_5, .ref a_6, .int x_39, .int v_8, .int v_9, .int v_10, .int v_11, .int v_12, .int v_13, .ref a_14, .ref a_15, .ref a_16, .int v_17, .ref a_18, .ref a_19])) := ⟨_, rfl⟩
  have hP : va_P (dC, dI) vwCl (va_pl L f_41) H := by rw [ef_41]; exact hP
  have hD : va_D (fun q => q ∈ L) (va_pl L f_41) := by rw [ef_41]; exact hD
  have hG : GI (okc cI cL cZ cR cG cH L kd) kd L f_41 := by rw [ef_41]; exact hG.set o0 (mk_3 ko0 ⟨a_2, a_3, a_4, a_5, a_6, x_39, v_8, v_9, v_10, v_11, v_12, v_13, a_14, a_15, a_16, v_17, a_18, a_19, rfl, ⟨ma_2, ka_2⟩, ⟨ma_3, ka_3⟩, ⟨ma_4, ka_4⟩, ⟨ma_5, ka_5⟩, ⟨ma_6, ka_6⟩, (by constructor <;> omega), (by constructor <;> omega), (by constructor <;> omega), ⟨ma_14, ka_14⟩, ⟨ma_15, ka_15⟩, ⟨ma_16, ka_16⟩, (by constructor <;> omega), ⟨ma_18, ka_18⟩, ⟨ma_19, ka_19⟩⟩)
  have hfo_42 : f_41 a_2 = .inr (7, [.ref a_21, .int v_22, .ref a_23, .ref a_24, .ref a_25, .ref a_26, .int v_27, .ref a_28, .ref a_29, .ref a_30, .ref a_31, .ref a_32, .int v_33, .ref a_34, .ref a_35, .ref a_36]) := by rw [ef_41, up_ne (kd_ne ko0 ka_2 (by decide))]; exact hfo_20
  have hfr0 : ∀ b, kd b ≠ 3 → kd b ≠ 507 → f_41 b = f b := fun b q3 q507 => (congrFun ef_41 b).trans ((up_ne (fun e9 => q3 (by rw [e9]; exact ko0))).trans (hfr0 b q3 q507))
  have hrr3_0 : ∀ b, kd b = 3 → fldR (f_41 b) 0 = fldR (f b) 0 := fun b kb => ((congrArg (fun x => fldR x 0) (congrFun ef_41 b)).trans (fr_up (by rw [hfo_1]; rfl) b)).trans (hrr3_0 b kb)
  have hrr3_3 : ∀ b, kd b = 3 → fldR (f_41 b) 3 = fldR (f b) 3 := fun b kb => ((congrArg (fun x => fldR x 3) (congrFun ef_41 b)).trans (fr_up (by rw [hfo_1]; rfl) b)).trans (hrr3_3 b kb)
  have hfo_43 : f_41 o0 = .inr (3, [.ref a_2, .ref a_3, .ref a_4, .ref a_5, .ref a_6, .int x_39, .int v_8, .int v_9, .int v_10, .int v_11, .int v_12, .int v_13, .ref a_14, .ref a_15, .ref a_16, .int v_17, .ref a_18, .ref a_19]) := by rw [ef_41]; exact up_self
  refine lv_aload_n hx hb dX3_takeNumbered_29 rfl (lv_at hl 2 rfl) ?_
  refine tk_getP (D := (dC, dI)) (ci := 3) (v := .int x_39) (C := RX3) (T := TX3) (N := 18) hx hb hU inlX3 hown hK hP mo0 hfo_43 rfl 5 (by decide) (hU _ wd_726) (fun _ h9 => h9) rfl dX3_takeNumbered_30 ?_
  refine lv_iconst (v := 1) hx hb dX3_takeNumbered_33 (by decide) ?_
  refine lv_isub hx hb dX3_takeNumbered_34 ?_
  refine lv_topi (fun x_44 ex_44 => ?_)
  have hx_44 : x_44.toInt = x_39.toInt - 1 := by rw [ex_44, sb_I (by rw [ti_1]; omega) (by rw [ti_1]; omega), ti_1]
  have bx_44 : ((-1) ≤ x_44.toInt ∧ x_44.toInt ≤ 7) := by constructor <;> omega
  refine lv_istore (lv' := [(5, .int x_44), (4, .int x_37), (3, .int p2), (0, .ref o0), (1, .int p1), (2, .int p2)]) hx hb dX3_takeNumbered_35 hl (by decide) rfl (fun ls hl => ?_)
  have hloop_52 : ∀ (n : Nat), ∀ (y_53 : Int32), ((-1) ≤ y_53.toInt ∧ y_53.toInt ≤ 7) → ∀ (y_54 : Int32), (0 ≤ y_54.toInt ∧ y_54.toInt ≤ 2147483647) → ∀ (f_56 : Nat → va_E), GI (okc cI cL cZ cR cG cH L kd) kd L f_56 → ∀ (H : Heap) (locs : List Loc), va_P (dC, dI) vwCl (va_pl L f_56) H → va_S (fun q => q ∈ L) s.heap H locs → va_D (fun q => q ∈ L) (va_pl L f_56) → (∀ b, kd b ≠ 3 → kd b ≠ 507 → f_56 b = f b) → (∀ b, kd b = 3 → fldR (f_56 b) 0 = fldR (f b) 0) → (∀ b, kd b = 3 → fldR (f_56 b) 3 = fldR (f b) 3) → (f_56 a_2 = .inr (7, [.ref a_21, .int v_22, .ref a_23, .ref a_24, .ref a_25, .ref a_26, .int v_27, .ref a_28, .ref a_29, .ref a_30, .ref a_31, .ref a_32, .int v_33, .ref a_34, .ref a_35, .ref a_36])) → (f_56 o0 = .inr (3, [.ref a_2, .ref a_3, .ref a_4, .ref a_5, .ref a_6, .int x_39, .int v_8, .int v_9, .int v_10, .int v_11, .int v_12, .int v_13, .ref a_14, .ref a_15, .ref a_16, .int v_17, .ref a_18, .ref a_19])) → y_53.toInt - (-1) < (n : Int) → ∀ (ls : Array Slot), lv_has ls 6 [(5, .int y_53), (4, .int x_37), (3, .int y_54), (0, .ref o0), (1, .int p1), (2, .int p2)] → W p l e (headSpec (wU yX3_takeNumbered cX3_takeNumbered 6 none) { frames := 1, cells := 0, slots := 0, locals := 40 }).room s m [.ref o0, .int p1, .int p2].toArray below meth c H locs 0 0 (MQ below (va_Qv (fun (f9 : Nat → va_E) => GI (okc cI cL cZ cR cG cH L kd) kd L f9 ∧ (∀ b, kd b ≠ 3 → kd b ≠ 507 → f9 b = f b) ∧ (∀ b, kd b = 3 → fldR (f9 b) 0 = fldR (f b) 0) ∧ (∀ b, kd b = 3 → fldR (f9 b) 3 = fldR (f b) 3)) (qP (dC, dI) cI cL cZ cR cG cH L) (fun q => q ∈ L)) [.ref o0, .int p1, .int p2].toArray s 0 0 (fun q => q ∈ L)) (F0 m 37 ls []) := by
    intro n
    induction n with
    | zero => intro y_53 by_53 y_54 by_54 f_56 hG H locs hP hS hD hfr0 hrr3_0 hrr3_3 hfo_57 hfo_58 hmuhloop_52 ls hl; exfalso; omega
    | succ n ih_hloop_52 =>
      intro y_53 by_53 y_54 by_54 f_56 hG H locs hP hS hD hfr0 hrr3_0 hrr3_3 hfo_57 hfo_58 hmuhloop_52 ls hl
      refine lv_iload hx hb dX3_takeNumbered_37 (lv_at hl 0 rfl) ?_
      refine lv_if_lt (tgt := 66) hx hb dX3_takeNumbered_39 (by decide) (fun c_59 => ?_) (fun c_59 => ?_)
      · skip
        rw [Int32.lt_iff_toInt_lt, ti_0] at c_59
        exact W.vret hx hb hr (fun t ht hW => ⟨⟨f_56, rfl, ⟨hG, hfr0, hrr3_0, hrr3_3⟩, by rw [ht]; exact hP, va_K.moved hW.alike hK, pl_in hD⟩, hS.F ht⟩) hS.2.2 dX3_takeNumbered_66
      · skip
        rw [Int32.lt_iff_toInt_lt, ti_0] at c_59
        refine lv_aload_n hx hb dX3_takeNumbered_42 rfl (lv_at hl 3 rfl) ?_
        refine tk_getP (D := (dC, dI)) (ci := 3) (v := .ref a_6) (C := RX3) (T := TX3) (N := 18) hx hb hU inlX3 hown hK hP mo0 hfo_58 rfl 4 (by decide) (hU _ wd_61) (fun _ h9 => h9) rfl dX3_takeNumbered_43 ?_
        refine lv_iload hx hb dX3_takeNumbered_46 (lv_at hl 0 rfl) ?_
        refine lv_iconst (v := 1) hx hb dX3_takeNumbered_48 (by decide) ?_
        refine lv_iload_n hx hb dX3_takeNumbered_49 rfl (lv_at hl 2 rfl) ?_
        refine lv_iload hx hb dX3_takeNumbered_50 (lv_at hl 1 rfl) ?_
        refine lv_irem hx hb dX3_takeNumbered_52 (by rw [← Int32.toInt_inj, ti_0]; omega) ?_
        refine lv_topi (fun x_60 ex_60 => ?_)
        have bx_60 : (0 ≤ x_60.toInt ∧ x_60.toInt ≤ 7) := by rw [ex_60]; have h8 := rm_B (x := y_54) (y := x_37) (by omega) (by omega); constructor <;> omega
        refine lv_iadd hx hb dX3_takeNumbered_53 ?_
        refine lv_topi (fun x_61 ex_61 => ?_)
        have hx_61 : x_61.toInt = 1 + x_60.toInt := by rw [ex_61, ad_I (by rw [ti_1]; omega) (by rw [ti_1]; omega), ti_1]
        have bx_61 : (1 ≤ x_61.toInt ∧ x_61.toInt ≤ 8) := by constructor <;> omega
        obtain ⟨g_63, hfo_62, hbg_63⟩ := un_507 (hG _ ma_6) ka_6
        refine tk_istP hx hb hK hP hD hS 0 ma_6 hfo_62 rfl (vp_in_iff.mpr (by constructor <;> omega)) dX3_takeNumbered_54 (fun H locs hP hD hS => ?_)
        obtain ⟨f_65, ef_65⟩ : ∃ y : Nat → va_E, y = va_up f_56 a_6 (.inl (cI, 8, .inl (upd g_63 (Int32.toNatClampNeg y_53) x_61))) := ⟨_, rfl⟩
        have hP : va_P (dC, dI) vwCl (va_pl L f_65) H := by rw [ef_65]; exact hP
        have hD : va_D (fun q => q ∈ L) (va_pl L f_65) := by rw [ef_65]; exact hD
        have hG : GI (okc cI cL cZ cR cG cH L kd) kd L f_65 := by rw [ef_65]; exact hG.set a_6 (mk_507 ka_6 ⟨_, rfl, okI_up hbg_63 (by constructor <;> omega) _⟩)
        have hfo_66 : f_65 a_2 = .inr (7, [.ref a_21, .int v_22, .ref a_23, .ref a_24, .ref a_25, .ref a_26, .int v_27, .ref a_28, .ref a_29, .ref a_30, .ref a_31, .ref a_32, .int v_33, .ref a_34, .ref a_35, .ref a_36]) := by rw [ef_65, up_ne (kd_ne ka_6 ka_2 (by decide))]; exact hfo_57
        have hfo_67 : f_65 o0 = .inr (3, [.ref a_2, .ref a_3, .ref a_4, .ref a_5, .ref a_6, .int x_39, .int v_8, .int v_9, .int v_10, .int v_11, .int v_12, .int v_13, .ref a_14, .ref a_15, .ref a_16, .int v_17, .ref a_18, .ref a_19]) := by rw [ef_65, up_ne (kd_ne ka_6 ko0 (by decide))]; exact hfo_58
        have hfr0 : ∀ b, kd b ≠ 3 → kd b ≠ 507 → f_65 b = f b := fun b q3 q507 => (congrFun ef_65 b).trans ((up_ne (fun e9 => q507 (by rw [e9]; exact ka_6))).trans (hfr0 b q3 q507))
        have hrr3_0 : ∀ b, kd b = 3 → fldR (f_65 b) 0 = fldR (f b) 0 := fun b kb => (congrArg (fun x => fldR x 0) ((congrFun ef_65 b).trans (up_ne (kd_ne ka_6 kb (by decide))))).trans (hrr3_0 b kb)
        have hrr3_3 : ∀ b, kd b = 3 → fldR (f_65 b) 3 = fldR (f b) 3 := fun b kb => (congrArg (fun x => fldR x 3) ((congrFun ef_65 b).trans (up_ne (kd_ne ka_6 kb (by decide))))).trans (hrr3_3 b kb)
        have hfo_68 : f_65 a_6 = .inl (cI, 8, .inl (upd g_63 (Int32.toNatClampNeg y_53) x_61)) := by rw [ef_65]; exact up_self
        refine lv_iload_n hx hb dX3_takeNumbered_55 rfl (lv_at hl 2 rfl) ?_
        refine lv_iload hx hb dX3_takeNumbered_56 (lv_at hl 1 rfl) ?_
        refine lv_idiv hx hb dX3_takeNumbered_58 (by rw [← Int32.toInt_inj, ti_0]; omega) ?_
        refine lv_topi (fun x_69 ex_69 => ?_)
        have bx_69 : (0 ≤ x_69.toInt ∧ x_69.toInt ≤ 2147483647) := by rw [ex_69]; have h8 := dv_B (x := y_54) (y := x_37) (by omega) (by omega); constructor <;> omega
        refine lv_istore_n (lv' := [(3, .int x_69), (5, .int y_53), (4, .int x_37), (0, .ref o0), (1, .int p1), (2, .int p2)]) hx hb dX3_takeNumbered_59 rfl hl (by decide) rfl (fun ls hl => ?_)
        obtain ⟨x_70, ex_70⟩ : ∃ y : Int32, y_53 + (-1) = y := ⟨_, rfl⟩
        have hx_70 : x_70.toInt = y_53.toInt + (-1) := by rw [← ex_70, ad_I (by rw [ti_m1]; omega) (by rw [ti_m1]; omega), ti_m1]
        have bx_70 : ((-1) ≤ x_70.toInt ∧ x_70.toInt ≤ 6) := by constructor <;> omega
        refine lv_iinc (v := x_70) (lv' := [(5, .int x_70), (3, .int x_69), (4, .int x_37), (0, .ref o0), (1, .int p1), (2, .int p2)]) hx hb dX3_takeNumbered_60 hl (k := 1) rfl ex_70 (by decide) rfl (fun ls hl => ?_)
        refine lv_goto (tgt := 37) hx hb dX3_takeNumbered_63 (by decide) ?_
        exact ih_hloop_52 x_70 (by constructor <;> omega) x_69 (by constructor <;> omega) f_65 hG _ _ hP hS hD hfr0 hrr3_0 hrr3_3 hfo_66 hfo_67 (by omega) ls (lv_sub hl [0, 2, 1, 3, 4, 5] rfl)
  exact hloop_52 9 x_44 (by constructor <;> omega) p2 (by constructor <;> omega) f_41 hG _ _ hP hS hD hfr0 hrr3_0 hrr3_3 hfo_42 hfo_43 (by omega) ls hl
set_option maxHeartbeats 8000000 in
set_option maxRecDepth 100000 in
theorem s_X3_takeSigns_k3_a540_w (l : Launch) (D : va_G) (cI cL cZ cR cG cH : ClassId) (Z : zT) (kd : Nat → Nat) (L : List Nat) (f : Nat → va_E) (hG : GI (okc cI cL cZ cR cG cH L kd) kd L f) (o0 : Nat) (mo0 : o0 ∈ L) (ko0 : kd o0 = 3) (o1 : Nat) (mo1 : o1 ∈ L) (ko1 : kd o1 = 540) (p2 : Int32) (hxpre0 : ∀ g9, f o1 = .inl (cI, 16, .inl g9) → ∀ j : Nat, (j : Int) < p2.toInt → (g9 j).toInt ≤ 8) : mPV l D cI cL cZ cR cG cH Z yX3_takeSigns cX3_takeSigns 3 none 1 40 [.ref o0, .ref o1, .int p2] L f (fun (f9 : Nat → va_E) => GI (okc cI cL cZ cR cG cH L kd) kd L f9 ∧ (∀ b, kd b ≠ 3 → kd b ≠ 507 → f9 b = f b) ∧ (∀ b, kd b = 3 → fldR (f9 b) 0 = fldR (f b) 0) ∧ (∀ b, kd b = 3 → fldR (f9 b) 3 = fldR (f b) 3)) := by
  obtain ⟨dC, dI⟩ := D
  refine Met.ofW (cc := cX3_takeSigns) (maxL := 3) (ret := none) (by decide) rfl ?_
  intro p e s m args below meth c s₁ B hml hv
  obtain ⟨rfl, hP, hK, hD0, hN, hZ⟩ := hv
  have hx := B.exec
  have hb := B.bytes
  have hr := B.returns
  have hU : ∀ w ∈ wsU, w.before _ s = true := fun w h => atoms_spec (ws := wU yX3_takeSigns cX3_takeSigns 3 none) B.pre w (List.mem_cons_of_mem _ h)
  have hown : s.vm.findClass RX3 = some m.cls := findClass_of_methodNamed B.named
  have hlocks := B.notSynchronized
  have hD := pl_in hD0
  have hS : va_S (fun q => q ∈ L) s.heap s.heap [] := va_S.rf
  have hl := lv_entry ([.ref o0, .ref o1, .int p2]) (n := 3) (Nat.le_of_ble_eq_true rfl)
  rw [lg_entry_eq]
  generalize (lg_sl ([.ref o0, .ref o1, .int p2]) ++ List.replicate (3 - (lg_sl ([.ref o0, .ref o1, .int p2])).length) Slot.unset).toArray = ls at hl ⊢
  have hl : lv_has ls 3 [(0, .ref o0), (1, .ref o1), (2, .int p2)] := hl
  have bp2 : ((-2147483648) ≤ p2.toInt ∧ p2.toInt ≤ 2147483647) := ⟨i32_lo _, i32_hi _⟩
  have hfr0 : ∀ b, kd b ≠ 3 → kd b ≠ 507 → f b = f b := fun _ _ _ => rfl
  have hrr3_0 : ∀ b, kd b = 3 → fldR (f b) 0 = fldR (f b) 0 := fun _ _ => rfl
  have hrr3_3 : ∀ b, kd b = 3 → fldR (f b) 3 = fldR (f b) 3 := fun _ _ => rfl
  refine lv_aload_n hx hb dX3_takeSigns_0 rfl (lv_at hl 0 rfl) ?_
  refine lv_iconst (v := 0) hx hb dX3_takeSigns_1 (by decide) ?_
  refine lv_iload_n hx hb dX3_takeSigns_2 rfl (lv_at hl 2 rfl) ?_
  refine lv_aload_n hx hb dX3_takeSigns_3 rfl (lv_at hl 1 rfl) ?_
  obtain ⟨g_2, hfo_1, hbg_2⟩ := un_540 (hG _ mo1) ko1
  refine tk_alenP (v := 16) hx hb hK hP 0 mo1 hfo_1 rfl rfl dX3_takeSigns_4 ?_
  refine lv_bipush (v := 8) hx hb dX3_takeSigns_5 (by decide) ?_
  refine va_mmin hx hb (by rw [hml]; exact hl.1.symm) hown (hU _ wd_722) (hU _ wd_248) (hU _ wd_249) (hU _ wd_250) (Nat.le_of_ble_eq_true rfl) (Nat.le_of_ble_eq_true rfl) (Nat.le_of_ble_eq_true rfl) (Nat.le_of_ble_eq_true rfl) dX3_takeSigns_7 ?_
  refine tk_topi (y := 8) (by decide) ?_
  refine va_mmin hx hb (by rw [hml]; exact hl.1.symm) hown (hU _ wd_722) (hU _ wd_248) (hU _ wd_249) (hU _ wd_250) (Nat.le_of_ble_eq_true rfl) (Nat.le_of_ble_eq_true rfl) (Nat.le_of_ble_eq_true rfl) (Nat.le_of_ble_eq_true rfl) dX3_takeSigns_10 ?_
  refine lv_topi (fun x_3 ex_3 => ?_)
  have hx_3 := min_I ex_3
  rw [ti_8] at hx_3
  have bx_3 : ((-2147483648) ≤ x_3.toInt ∧ x_3.toInt ≤ 8) := by constructor <;> omega
  refine va_mmax hx hb (by rw [hml]; exact hl.1.symm) hown (hU _ wd_723) (hU _ wd_724) (hU _ wd_249) (hU _ wd_725) (Nat.le_of_ble_eq_true rfl) (Nat.le_of_ble_eq_true rfl) (Nat.le_of_ble_eq_true rfl) (Nat.le_of_ble_eq_true rfl) dX3_takeSigns_13 ?_
  refine lv_topi (fun x_4 ex_4 => ?_)
  have hx_4 := max_I ex_4
  rw [ti_0] at hx_4
  have bx_4 : (0 ≤ x_4.toInt ∧ x_4.toInt ≤ 8) := by constructor <;> omega
  obtain ⟨a_6, a_7, a_8, a_9, a_10, v_11, v_12, v_13, v_14, v_15, v_16, v_17, a_18, a_19, a_20, v_21, a_22, a_23, hfo_5, ⟨ma_6, ka_6⟩, ⟨ma_7, ka_7⟩, ⟨ma_8, ka_8⟩, ⟨ma_9, ka_9⟩, ⟨ma_10, ka_10⟩, bv_11, bv_12, bv_13, ⟨ma_18, ka_18⟩, ⟨ma_19, ka_19⟩, ⟨ma_20, ka_20⟩, bv_21, ⟨ma_22, ka_22⟩, ⟨ma_23, ka_23⟩⟩ := un_3 (hG _ mo0) ko0
  have bv_14 : ((-2147483648) ≤ v_14.toInt ∧ v_14.toInt ≤ 2147483647) := ⟨i32_lo _, i32_hi _⟩
  have bv_15 : ((-2147483648) ≤ v_15.toInt ∧ v_15.toInt ≤ 2147483647) := ⟨i32_lo _, i32_hi _⟩
  have bv_16 : ((-2147483648) ≤ v_16.toInt ∧ v_16.toInt ≤ 2147483647) := ⟨i32_lo _, i32_hi _⟩
  have bv_17 : ((-2147483648) ≤ v_17.toInt ∧ v_17.toInt ≤ 2147483647) := ⟨i32_lo _, i32_hi _⟩
  refine tk_putP (D := (dC, dI)) (ci := 3) (v := .int x_4) (ty := .int) (C := RX3) (T := TX3) (N := 18) hx hb hU inlX3 tyX3 tyX3_ok nmX3 hown hK hP hD hS mo0 hfo_5 rfl 5 (by decide) (hU _ wd_726) (fun _ h9 => h9) rfl (by decide +kernel) rfl rfl (Nat.le_of_ble_eq_true rfl) dX3_takeSigns_16 (fun H locs hP hD hS => ?_)
  obtain ⟨f_25, ef_25⟩ : ∃ y : Nat → va_E, y = va_up f o0 (.inr (3, [.ref a_6, .ref a_7, .ref a_8, .ref a_9, .ref a_10, .int x_4, .int v_12, .int v_13, .int v_14, .int v_15, .int v_16, .int v_17, .ref a_18, .ref a_19, .ref a_20, .int v_21, .ref a_22, .ref a_23])) := ⟨_, rfl⟩
  have hP : va_P (dC, dI) vwCl (va_pl L f_25) H := by rw [ef_25]; exact hP
  have hD : va_D (fun q => q ∈ L) (va_pl L f_25) := by rw [ef_25]; exact hD
  have hG : GI (okc cI cL cZ cR cG cH L kd) kd L f_25 := by rw [ef_25]; exact hG.set o0 (mk_3 ko0 ⟨a_6, a_7, a_8, a_9, a_10, x_4, v_12, v_13, v_14, v_15, v_16, v_17, a_18, a_19, a_20, v_21, a_22, a_23, rfl, ⟨ma_6, ka_6⟩, ⟨ma_7, ka_7⟩, ⟨ma_8, ka_8⟩, ⟨ma_9, ka_9⟩, ⟨ma_10, ka_10⟩, (by constructor <;> omega), (by constructor <;> omega), (by constructor <;> omega), ⟨ma_18, ka_18⟩, ⟨ma_19, ka_19⟩, ⟨ma_20, ka_20⟩, (by constructor <;> omega), ⟨ma_22, ka_22⟩, ⟨ma_23, ka_23⟩⟩)
  have hfo_26 : f_25 o1 = .inl (cI, 16, .inl g_2) := by rw [ef_25, up_ne (kd_ne ko0 ko1 (by decide))]; exact hfo_1
  have hfr0 : ∀ b, kd b ≠ 3 → kd b ≠ 507 → f_25 b = f b := fun b q3 q507 => (congrFun ef_25 b).trans ((up_ne (fun e9 => q3 (by rw [e9]; exact ko0))).trans (hfr0 b q3 q507))
  have hrr3_0 : ∀ b, kd b = 3 → fldR (f_25 b) 0 = fldR (f b) 0 := fun b kb => ((congrArg (fun x => fldR x 0) (congrFun ef_25 b)).trans (fr_up (by rw [hfo_5]; rfl) b)).trans (hrr3_0 b kb)
  have hrr3_3 : ∀ b, kd b = 3 → fldR (f_25 b) 3 = fldR (f b) 3 := fun b kb => ((congrArg (fun x => fldR x 3) (congrFun ef_25 b)).trans (fr_up (by rw [hfo_5]; rfl) b)).trans (hrr3_3 b kb)
  have hfo_27 : f_25 o0 = .inr (3, [.ref a_6, .ref a_7, .ref a_8, .ref a_9, .ref a_10, .int x_4, .int v_12, .int v_13, .int v_14, .int v_15, .int v_16, .int v_17, .ref a_18, .ref a_19, .ref a_20, .int v_21, .ref a_22, .ref a_23]) := by rw [ef_25]; exact up_self
  refine lv_aload_n hx hb dX3_takeSigns_19 rfl (lv_at hl 1 rfl) ?_
  refine lv_iconst (v := 0) hx hb dX3_takeSigns_20 (by decide) ?_
  refine lv_aload_n hx hb dX3_takeSigns_21 rfl (lv_at hl 0 rfl) ?_
  refine tk_getP (D := (dC, dI)) (ci := 3) (v := .ref a_10) (C := RX3) (T := TX3) (N := 18) hx hb hU inlX3 hown hK hP mo0 hfo_27 rfl 4 (by decide) (hU _ wd_61) (fun _ h9 => h9) rfl dX3_takeSigns_22 ?_
  refine lv_iconst (v := 0) hx hb dX3_takeSigns_25 (by decide) ?_
  refine lv_aload_n hx hb dX3_takeSigns_26 rfl (lv_at hl 0 rfl) ?_
  refine tk_getP (D := (dC, dI)) (ci := 3) (v := .int x_4) (C := RX3) (T := TX3) (N := 18) hx hb hU inlX3 hown hK hP mo0 hfo_27 rfl 5 (by decide) (hU _ wd_726) (fun _ h9 => h9) rfl dX3_takeSigns_27 ?_
  obtain ⟨g_29, hfo_28, hbg_29⟩ := un_507 (hG _ ma_10) ka_10
  refine tk_copyP hx hb (by rw [hml]; exact hl.1.symm) hown (hU _ wd_727) (hU _ wd_253) (hU _ wd_254) (hU _ wd_255) hK hP hD hS 0 mo1 ma_10 hfo_26 hfo_28 rfl (by decide) (by decide) (by rw [Int32.lt_iff_toInt_lt, ti_0]; omega) (cp_ok (by rw [ti_0]; omega) (by omega) (by rw [ti_0]; omega)) (cp_ok (by rw [ti_0]; omega) (by omega) (by rw [ti_0]; omega)) (Nat.le_of_ble_eq_true rfl) (Nat.le_of_ble_eq_true rfl) dX3_takeSigns_30 (fun H locs hP hD hS => ?_)
  obtain ⟨f_31, ef_31⟩ : ∃ y : Nat → va_E, y = va_up f_25 a_10 (.inl (cI, 8, .inl (va_cpy g_2 g_29 (Int32.toNatClampNeg 0) (Int32.toNatClampNeg 0) (Int32.toNatClampNeg x_4)))) := ⟨_, rfl⟩
  have hP : va_P (dC, dI) vwCl (va_pl L f_31) H := by rw [ef_31]; exact hP
  have hD : va_D (fun q => q ∈ L) (va_pl L f_31) := by rw [ef_31]; exact hD
  have hG : GI (okc cI cL cZ cR cG cH L kd) kd L f_31 := by rw [ef_31]; exact hG.set a_10 (mk_507 ka_10 ⟨_, rfl, okI_cp2 (fun j h1 h2 => by have hcn := cl_I (i := x_4) (by omega); have hc0 : Int32.toNatClampNeg 0 = 0 := by decide; have h8 := hxpre0 g_2 hfo_26 j (by omega); have h7 := hbg_2 j; constructor <;> omega) hbg_29⟩)
  have hfo_32 : f_31 o1 = .inl (cI, 16, .inl g_2) := by rw [ef_31, up_ne (kd_ne ka_10 ko1 (by decide))]; exact hfo_26
  have hfo_33 : f_31 o0 = .inr (3, [.ref a_6, .ref a_7, .ref a_8, .ref a_9, .ref a_10, .int x_4, .int v_12, .int v_13, .int v_14, .int v_15, .int v_16, .int v_17, .ref a_18, .ref a_19, .ref a_20, .int v_21, .ref a_22, .ref a_23]) := by rw [ef_31, up_ne (kd_ne ka_10 ko0 (by decide))]; exact hfo_27
  have hfr0 : ∀ b, kd b ≠ 3 → kd b ≠ 507 → f_31 b = f b := fun b q3 q507 => (congrFun ef_31 b).trans ((up_ne (fun e9 => q507 (by rw [e9]; exact ka_10))).trans (hfr0 b q3 q507))
  have hrr3_0 : ∀ b, kd b = 3 → fldR (f_31 b) 0 = fldR (f b) 0 := fun b kb => (congrArg (fun x => fldR x 0) ((congrFun ef_31 b).trans (up_ne (kd_ne ka_10 kb (by decide))))).trans (hrr3_0 b kb)
  have hrr3_3 : ∀ b, kd b = 3 → fldR (f_31 b) 3 = fldR (f b) 3 := fun b kb => (congrArg (fun x => fldR x 3) ((congrFun ef_31 b).trans (up_ne (kd_ne ka_10 kb (by decide))))).trans (hrr3_3 b kb)
  have hfo_34 : f_31 a_10 = .inl (cI, 8, .inl (va_cpy g_2 g_29 (Int32.toNatClampNeg 0) (Int32.toNatClampNeg 0) (Int32.toNatClampNeg x_4))) := by rw [ef_31]; exact up_self
  exact W.vret hx hb hr (fun t ht hW => ⟨⟨f_31, rfl, ⟨hG, hfr0, hrr3_0, hrr3_3⟩, by rw [ht]; exact hP, va_K.moved hW.alike hK, pl_in hD⟩, hS.F ht⟩) hS.2.2 dX3_takeSigns_33
set_option maxHeartbeats 8000000 in
set_option maxRecDepth 100000 in
theorem s_X9_copyTo_k9_a507_n (l : Launch) (D : va_G) (cI cL cZ cR cG cH : ClassId) (Z : zT) (kd : Nat → Nat) (L : List Nat) (f : Nat → va_E) (hG : GI (okc cI cL cZ cR cG cH L kd) kd L f) (o0 : Nat) (mo0 : o0 ∈ L) (ko0 : kd o0 = 9) (p1 : Int32) (o2 : Nat) (mo2 : o2 ∈ L) (ko2 : kd o2 = 507) (p3 : Int32) (bp3 : (0 ≤ p3.toInt ∧ p3.toInt ≤ 8)) : mPI l D cI cL cZ cR cG cH Z yX9_copyTo cX9_copyTo 5 (some .int) 1 40 [.ref o0, .int p1, .ref o2, .int p3] L f (fun (r : Int32) (f9 : Nat → va_E) => GI (okc cI cL cZ cR cG cH L kd) kd L f9 ∧ (0 ≤ r.toInt ∧ r.toInt ≤ 8) ∧ (∀ b, kd b ≠ 507 → f9 b = f b)) := by
  obtain ⟨dC, dI⟩ := D
  refine Met.ofW (cc := cX9_copyTo) (maxL := 5) (ret := (some .int)) (by decide) rfl ?_
  intro p e s m args below meth c s₁ B hml hv
  obtain ⟨rfl, hP, hK, hD0, hN, hZ⟩ := hv
  have hx := B.exec
  have hb := B.bytes
  have hr := B.returns
  have hU : ∀ w ∈ wsU, w.before _ s = true := fun w h => atoms_spec (ws := wU yX9_copyTo cX9_copyTo 5 (some .int)) B.pre w (List.mem_cons_of_mem _ h)
  have hown : s.vm.findClass RX9 = some m.cls := findClass_of_methodNamed B.named
  have hlocks := B.notSynchronized
  have hD := pl_in hD0
  have hS : va_S (fun q => q ∈ L) s.heap s.heap [] := va_S.rf
  have hl := lv_entry ([.ref o0, .int p1, .ref o2, .int p3]) (n := 5) (Nat.le_of_ble_eq_true rfl)
  rw [lg_entry_eq]
  generalize (lg_sl ([.ref o0, .int p1, .ref o2, .int p3]) ++ List.replicate (5 - (lg_sl ([.ref o0, .int p1, .ref o2, .int p3])).length) Slot.unset).toArray = ls at hl ⊢
  have hl : lv_has ls 5 [(0, .ref o0), (1, .int p1), (2, .ref o2), (3, .int p3)] := hl
  have bp1 : ((-2147483648) ≤ p1.toInt ∧ p1.toInt ≤ 2147483647) := ⟨i32_lo _, i32_hi _⟩
  have hfr0 : ∀ b, kd b ≠ 507 → f b = f b := fun _ _ => rfl
  refine lv_aload_n hx hb dX9_copyTo_0 rfl (lv_at hl 0 rfl) ?_
  refine lv_iload_n hx hb dX9_copyTo_1 rfl (lv_at hl 1 rfl) ?_
  obtain ⟨a_2, a_3, v_4, hfo_1, ⟨ma_2, ka_2⟩, ⟨ma_3, ka_3⟩, bv_4⟩ := un_9 (hG _ mo0) ko0
  refine tk_ViP (As := [.int p1]) (rest := []) (n := 1) hx hb hml hown hU hN hZ (s_X9_lengthOf_k9 l (dC, dI) cI cL cZ cR cG cH Z kd L f hG o0 mo0 ko0 p1) wd_1010 wd_1011 wd_1012 wd_85 wd_1013 (by decide +kernel) ⟨Nat.le_of_ble_eq_true rfl, Nat.le_of_ble_eq_true rfl⟩ hK hP hD hS mo0 hfo_1 9 rfl rfl rfl hl.1 rfl (Nat.le_of_ble_eq_true rfl) dX9_copyTo_2 ⟨Nat.le_of_ble_eq_true rfl, Nat.le_of_ble_eq_true rfl⟩ (fun x_5 f_6 H locs hw hP hD hS => ?_)
  obtain ⟨rfl, bx_5, relx_5⟩ := hw
  refine lv_istore (lv' := [(4, .int x_5), (0, .ref o0), (1, .int p1), (2, .ref o2), (3, .int p3)]) hx hb dX9_copyTo_5 hl (by decide) rfl (fun ls hl => ?_)
  refine lv_iload hx hb dX9_copyTo_7 (lv_at hl 0 rfl) ?_
  refine lv_iconst (v := 1) hx hb dX9_copyTo_9 (by decide) ?_
  refine lv_icmp_lt (tgt := 26) hx hb dX9_copyTo_10 (by decide) (fun c_8 => ?_) (fun c_8 => ?_)
  · skip
    rw [Int32.lt_iff_toInt_lt, ti_1] at c_8
    refine lv_iload_n hx hb dX9_copyTo_26 rfl (lv_at hl 4 rfl) ?_
    exact W.iret (v := p3) hx hb hr (fun t ht hW => ⟨⟨p3, f, rfl, ⟨hG, (by constructor <;> omega), hfr0⟩, by rw [ht]; exact hP, va_K.moved hW.alike hK, pl_in hD⟩, hS.F ht⟩) hS.2.2 dX9_copyTo_27
  · skip
    rw [Int32.lt_iff_toInt_lt, ti_1] at c_8
    refine lv_iload_n hx hb dX9_copyTo_13 rfl (lv_at hl 4 rfl) ?_
    refine lv_if_lt (tgt := 26) hx hb dX9_copyTo_14 (by decide) (fun c_9 => ?_) (fun c_9 => ?_)
    · skip
      rw [Int32.lt_iff_toInt_lt, ti_0] at c_9
      exfalso
      omega
    · skip
      rw [Int32.lt_iff_toInt_lt, ti_0] at c_9
      refine lv_iload_n hx hb dX9_copyTo_17 rfl (lv_at hl 4 rfl) ?_
      refine lv_iload hx hb dX9_copyTo_18 (lv_at hl 0 rfl) ?_
      refine lv_iadd hx hb dX9_copyTo_20 ?_
      refine lv_topi (fun x_10 ex_10 => ?_)
      have hx_10 : x_10.toInt = p3.toInt + x_5.toInt := by rw [ex_10, ad_I (by omega) (by omega)]
      have bx_10 : (1 ≤ x_10.toInt ∧ x_10.toInt ≤ 16) := by constructor <;> omega
      refine lv_aload_n hx hb dX9_copyTo_21 rfl (lv_at hl 3 rfl) ?_
      obtain ⟨g_12, hfo_11, hbg_12⟩ := un_507 (hG _ mo2) ko2
      refine tk_alenP (v := 8) hx hb hK hP 0 mo2 hfo_11 rfl rfl dX9_copyTo_22 ?_
      refine lv_icmp_le (tgt := 28) hx hb dX9_copyTo_23 (by decide) (fun c_13 => ?_) (fun c_13 => ?_)
      · skip
        rw [Int32.le_iff_toInt_le, ti_8] at c_13
        refine lv_aload_n hx hb dX9_copyTo_28 rfl (lv_at hl 1 rfl) ?_
        refine tk_getP (D := (dC, dI)) (ci := 9) (v := .ref a_2) (C := RX9) (T := TX9) (N := 3) hx hb hU inlX9 hown hK hP mo0 hfo_1 rfl 0 (by decide) (hU _ wd_95) (fun _ h9 => h9) rfl dX9_copyTo_29 ?_
        refine lv_iload_n hx hb dX9_copyTo_32 rfl (lv_at hl 2 rfl) ?_
        refine lv_bipush (v := 8) hx hb dX9_copyTo_33 (by decide) ?_
        refine lv_imul hx hb dX9_copyTo_35 ?_
        refine lv_topi (fun x_14 ex_14 => ?_)
        have hx_14 : x_14.toInt = p1.toInt * 8 := by rw [ex_14, ml_I (by rw [ti_8]; omega) (by rw [ti_8]; omega), ti_8]
        have bx_14 : (0 ≤ x_14.toInt ∧ x_14.toInt ≤ 88) := by constructor <;> omega
        refine lv_aload_n hx hb dX9_copyTo_36 rfl (lv_at hl 3 rfl) ?_
        refine lv_iload_n hx hb dX9_copyTo_37 rfl (lv_at hl 4 rfl) ?_
        refine lv_iload hx hb dX9_copyTo_38 (lv_at hl 0 rfl) ?_
        obtain ⟨g_16, hfo_15, hbg_16⟩ := un_504 (hG _ ma_2) ka_2
        refine tk_copyP hx hb (by rw [hml]; exact hl.1.symm) hown (hU _ wd_548) (hU _ wd_253) (hU _ wd_254) (hU _ wd_255) hK hP hD hS 0 ma_2 mo2 hfo_15 hfo_11 rfl (by rw [Int32.lt_iff_toInt_lt, ti_0]; omega) (by rw [Int32.lt_iff_toInt_lt, ti_0]; omega) (by rw [Int32.lt_iff_toInt_lt, ti_0]; omega) (cp_ok (by omega) (by omega) (by omega)) (cp_ok (by omega) (by omega) (by omega)) (Nat.le_of_ble_eq_true rfl) (Nat.le_of_ble_eq_true rfl) dX9_copyTo_40 (fun H locs hP hD hS => ?_)
        obtain ⟨f_18, ef_18⟩ : ∃ y : Nat → va_E, y = va_up f o2 (.inl (cI, 8, .inl (va_cpy g_16 g_12 (Int32.toNatClampNeg x_14) (Int32.toNatClampNeg p3) (Int32.toNatClampNeg x_5)))) := ⟨_, rfl⟩
        have hP : va_P (dC, dI) vwCl (va_pl L f_18) H := by rw [ef_18]; exact hP
        have hD : va_D (fun q => q ∈ L) (va_pl L f_18) := by rw [ef_18]; exact hD
        have hG : GI (okc cI cL cZ cR cG cH L kd) kd L f_18 := by rw [ef_18]; exact hG.set o2 (mk_507 ko2 ⟨_, rfl, okI_cpy (fun j => by have := hbg_16 j; constructor <;> omega) hbg_12 _ _ _⟩)
        have hfo_19 : f_18 o0 = .inr (9, [.ref a_2, .ref a_3, .int v_4]) := by rw [ef_18, up_ne (kd_ne ko2 ko0 (by decide))]; exact hfo_1
        have hfo_20 : f_18 a_2 = .inl (cI, 96, .inl g_16) := by rw [ef_18, up_ne (kd_ne ko2 ka_2 (by decide))]; exact hfo_15
        have hfr0 : ∀ b, kd b ≠ 507 → f_18 b = f b := fun b q507 => (congrFun ef_18 b).trans ((up_ne (fun e9 => q507 (by rw [e9]; exact ko2))).trans (hfr0 b q507))
        have hfo_21 : f_18 o2 = .inl (cI, 8, .inl (va_cpy g_16 g_12 (Int32.toNatClampNeg x_14) (Int32.toNatClampNeg p3) (Int32.toNatClampNeg x_5))) := by rw [ef_18]; exact up_self
        refine lv_iload_n hx hb dX9_copyTo_43 rfl (lv_at hl 4 rfl) ?_
        refine lv_iload hx hb dX9_copyTo_44 (lv_at hl 0 rfl) ?_
        refine lv_iadd hx hb dX9_copyTo_46 ?_
        refine lv_topi (fun x_22 ex_22 => ?_)
        have hx_22 : x_22.toInt = p3.toInt + x_5.toInt := by rw [ex_22, ad_I (by omega) (by omega)]
        have bx_22 : (1 ≤ x_22.toInt ∧ x_22.toInt ≤ 16) := by constructor <;> omega
        have hclc_23 : (0 ≤ x_22.toInt ∧ x_22.toInt ≤ 8) := by constructor <;> omega
        exact W.iret (v := x_22) hx hb hr (fun t ht hW => ⟨⟨x_22, f_18, rfl, ⟨hG, (by constructor <;> omega), hfr0⟩, by rw [ht]; exact hP, va_K.moved hW.alike hK, pl_in hD⟩, hS.F ht⟩) hS.2.2 dX9_copyTo_47
      · skip
        rw [Int32.le_iff_toInt_le, ti_8] at c_13
        refine lv_iload_n hx hb dX9_copyTo_26 rfl (lv_at hl 4 rfl) ?_
        exact W.iret (v := p3) hx hb hr (fun t ht hW => ⟨⟨p3, f, rfl, ⟨hG, (by constructor <;> omega), hfr0⟩, by rw [ht]; exact hP, va_K.moved hW.alike hK, pl_in hD⟩, hS.F ht⟩) hS.2.2 dX9_copyTo_27
set_option maxHeartbeats 8000000 in
set_option maxRecDepth 100000 in
theorem s_X9_copyTo_k9_a505_n (l : Launch) (D : va_G) (cI cL cZ cR cG cH : ClassId) (Z : zT) (kd : Nat → Nat) (L : List Nat) (f : Nat → va_E) (hG : GI (okc cI cL cZ cR cG cH L kd) kd L f) (o0 : Nat) (mo0 : o0 ∈ L) (ko0 : kd o0 = 9) (p1 : Int32) (o2 : Nat) (mo2 : o2 ∈ L) (ko2 : kd o2 = 505) (p3 : Int32) (bp3 : (0 ≤ p3.toInt ∧ p3.toInt ≤ 12)) : mPI l D cI cL cZ cR cG cH Z yX9_copyTo cX9_copyTo 5 (some .int) 1 40 [.ref o0, .int p1, .ref o2, .int p3] L f (fun (r : Int32) (f9 : Nat → va_E) => GI (okc cI cL cZ cR cG cH L kd) kd L f9 ∧ (0 ≤ r.toInt ∧ r.toInt ≤ 12) ∧ (∀ b, kd b ≠ 505 → f9 b = f b)) := by
  obtain ⟨dC, dI⟩ := D
  refine Met.ofW (cc := cX9_copyTo) (maxL := 5) (ret := (some .int)) (by decide) rfl ?_
  intro p e s m args below meth c s₁ B hml hv
  obtain ⟨rfl, hP, hK, hD0, hN, hZ⟩ := hv
  have hx := B.exec
  have hb := B.bytes
  have hr := B.returns
  have hU : ∀ w ∈ wsU, w.before _ s = true := fun w h => atoms_spec (ws := wU yX9_copyTo cX9_copyTo 5 (some .int)) B.pre w (List.mem_cons_of_mem _ h)
  have hown : s.vm.findClass RX9 = some m.cls := findClass_of_methodNamed B.named
  have hlocks := B.notSynchronized
  have hD := pl_in hD0
  have hS : va_S (fun q => q ∈ L) s.heap s.heap [] := va_S.rf
  have hl := lv_entry ([.ref o0, .int p1, .ref o2, .int p3]) (n := 5) (Nat.le_of_ble_eq_true rfl)
  rw [lg_entry_eq]
  generalize (lg_sl ([.ref o0, .int p1, .ref o2, .int p3]) ++ List.replicate (5 - (lg_sl ([.ref o0, .int p1, .ref o2, .int p3])).length) Slot.unset).toArray = ls at hl ⊢
  have hl : lv_has ls 5 [(0, .ref o0), (1, .int p1), (2, .ref o2), (3, .int p3)] := hl
  have bp1 : ((-2147483648) ≤ p1.toInt ∧ p1.toInt ≤ 2147483647) := ⟨i32_lo _, i32_hi _⟩
  have hfr0 : ∀ b, kd b ≠ 505 → f b = f b := fun _ _ => rfl
  refine lv_aload_n hx hb dX9_copyTo_0 rfl (lv_at hl 0 rfl) ?_
  refine lv_iload_n hx hb dX9_copyTo_1 rfl (lv_at hl 1 rfl) ?_
  obtain ⟨a_2, a_3, v_4, hfo_1, ⟨ma_2, ka_2⟩, ⟨ma_3, ka_3⟩, bv_4⟩ := un_9 (hG _ mo0) ko0
  refine tk_ViP (As := [.int p1]) (rest := []) (n := 1) hx hb hml hown hU hN hZ (s_X9_lengthOf_k9 l (dC, dI) cI cL cZ cR cG cH Z kd L f hG o0 mo0 ko0 p1) wd_1010 wd_1011 wd_1012 wd_85 wd_1013 (by decide +kernel) ⟨Nat.le_of_ble_eq_true rfl, Nat.le_of_ble_eq_true rfl⟩ hK hP hD hS mo0 hfo_1 9 rfl rfl rfl hl.1 rfl (Nat.le_of_ble_eq_true rfl) dX9_copyTo_2 ⟨Nat.le_of_ble_eq_true rfl, Nat.le_of_ble_eq_true rfl⟩ (fun x_5 f_6 H locs hw hP hD hS => ?_)
  obtain ⟨rfl, bx_5, relx_5⟩ := hw
  refine lv_istore (lv' := [(4, .int x_5), (0, .ref o0), (1, .int p1), (2, .ref o2), (3, .int p3)]) hx hb dX9_copyTo_5 hl (by decide) rfl (fun ls hl => ?_)
  refine lv_iload hx hb dX9_copyTo_7 (lv_at hl 0 rfl) ?_
  refine lv_iconst (v := 1) hx hb dX9_copyTo_9 (by decide) ?_
  refine lv_icmp_lt (tgt := 26) hx hb dX9_copyTo_10 (by decide) (fun c_8 => ?_) (fun c_8 => ?_)
  · skip
    rw [Int32.lt_iff_toInt_lt, ti_1] at c_8
    refine lv_iload_n hx hb dX9_copyTo_26 rfl (lv_at hl 4 rfl) ?_
    exact W.iret (v := p3) hx hb hr (fun t ht hW => ⟨⟨p3, f, rfl, ⟨hG, (by constructor <;> omega), hfr0⟩, by rw [ht]; exact hP, va_K.moved hW.alike hK, pl_in hD⟩, hS.F ht⟩) hS.2.2 dX9_copyTo_27
  · skip
    rw [Int32.lt_iff_toInt_lt, ti_1] at c_8
    refine lv_iload_n hx hb dX9_copyTo_13 rfl (lv_at hl 4 rfl) ?_
    refine lv_if_lt (tgt := 26) hx hb dX9_copyTo_14 (by decide) (fun c_9 => ?_) (fun c_9 => ?_)
    · skip
      rw [Int32.lt_iff_toInt_lt, ti_0] at c_9
      exfalso
      omega
    · skip
      rw [Int32.lt_iff_toInt_lt, ti_0] at c_9
      refine lv_iload_n hx hb dX9_copyTo_17 rfl (lv_at hl 4 rfl) ?_
      refine lv_iload hx hb dX9_copyTo_18 (lv_at hl 0 rfl) ?_
      refine lv_iadd hx hb dX9_copyTo_20 ?_
      refine lv_topi (fun x_10 ex_10 => ?_)
      have hx_10 : x_10.toInt = p3.toInt + x_5.toInt := by rw [ex_10, ad_I (by omega) (by omega)]
      have bx_10 : (1 ≤ x_10.toInt ∧ x_10.toInt ≤ 20) := by constructor <;> omega
      refine lv_aload_n hx hb dX9_copyTo_21 rfl (lv_at hl 3 rfl) ?_
      obtain ⟨g_12, hfo_11, hbg_12⟩ := un_505 (hG _ mo2) ko2
      refine tk_alenP (v := 12) hx hb hK hP 0 mo2 hfo_11 rfl rfl dX9_copyTo_22 ?_
      refine lv_icmp_le (tgt := 28) hx hb dX9_copyTo_23 (by decide) (fun c_13 => ?_) (fun c_13 => ?_)
      · skip
        rw [Int32.le_iff_toInt_le, ti_12] at c_13
        refine lv_aload_n hx hb dX9_copyTo_28 rfl (lv_at hl 1 rfl) ?_
        refine tk_getP (D := (dC, dI)) (ci := 9) (v := .ref a_2) (C := RX9) (T := TX9) (N := 3) hx hb hU inlX9 hown hK hP mo0 hfo_1 rfl 0 (by decide) (hU _ wd_95) (fun _ h9 => h9) rfl dX9_copyTo_29 ?_
        refine lv_iload_n hx hb dX9_copyTo_32 rfl (lv_at hl 2 rfl) ?_
        refine lv_bipush (v := 8) hx hb dX9_copyTo_33 (by decide) ?_
        refine lv_imul hx hb dX9_copyTo_35 ?_
        refine lv_topi (fun x_14 ex_14 => ?_)
        have hx_14 : x_14.toInt = p1.toInt * 8 := by rw [ex_14, ml_I (by rw [ti_8]; omega) (by rw [ti_8]; omega), ti_8]
        have bx_14 : (0 ≤ x_14.toInt ∧ x_14.toInt ≤ 88) := by constructor <;> omega
        refine lv_aload_n hx hb dX9_copyTo_36 rfl (lv_at hl 3 rfl) ?_
        refine lv_iload_n hx hb dX9_copyTo_37 rfl (lv_at hl 4 rfl) ?_
        refine lv_iload hx hb dX9_copyTo_38 (lv_at hl 0 rfl) ?_
        obtain ⟨g_16, hfo_15, hbg_16⟩ := un_504 (hG _ ma_2) ka_2
        refine tk_copyP hx hb (by rw [hml]; exact hl.1.symm) hown (hU _ wd_548) (hU _ wd_253) (hU _ wd_254) (hU _ wd_255) hK hP hD hS 0 ma_2 mo2 hfo_15 hfo_11 rfl (by rw [Int32.lt_iff_toInt_lt, ti_0]; omega) (by rw [Int32.lt_iff_toInt_lt, ti_0]; omega) (by rw [Int32.lt_iff_toInt_lt, ti_0]; omega) (cp_ok (by omega) (by omega) (by omega)) (cp_ok (by omega) (by omega) (by omega)) (Nat.le_of_ble_eq_true rfl) (Nat.le_of_ble_eq_true rfl) dX9_copyTo_40 (fun H locs hP hD hS => ?_)
        obtain ⟨f_18, ef_18⟩ : ∃ y : Nat → va_E, y = va_up f o2 (.inl (cI, 12, .inl (va_cpy g_16 g_12 (Int32.toNatClampNeg x_14) (Int32.toNatClampNeg p3) (Int32.toNatClampNeg x_5)))) := ⟨_, rfl⟩
        have hP : va_P (dC, dI) vwCl (va_pl L f_18) H := by rw [ef_18]; exact hP
        have hD : va_D (fun q => q ∈ L) (va_pl L f_18) := by rw [ef_18]; exact hD
        have hG : GI (okc cI cL cZ cR cG cH L kd) kd L f_18 := by rw [ef_18]; exact hG.set o2 (mk_505 ko2 ⟨_, rfl, okI_cpy (fun j => by have := hbg_16 j; constructor <;> omega) hbg_12 _ _ _⟩)
        have hfo_19 : f_18 o0 = .inr (9, [.ref a_2, .ref a_3, .int v_4]) := by rw [ef_18, up_ne (kd_ne ko2 ko0 (by decide))]; exact hfo_1
        have hfo_20 : f_18 a_2 = .inl (cI, 96, .inl g_16) := by rw [ef_18, up_ne (kd_ne ko2 ka_2 (by decide))]; exact hfo_15
        have hfr0 : ∀ b, kd b ≠ 505 → f_18 b = f b := fun b q505 => (congrFun ef_18 b).trans ((up_ne (fun e9 => q505 (by rw [e9]; exact ko2))).trans (hfr0 b q505))
        have hfo_21 : f_18 o2 = .inl (cI, 12, .inl (va_cpy g_16 g_12 (Int32.toNatClampNeg x_14) (Int32.toNatClampNeg p3) (Int32.toNatClampNeg x_5))) := by rw [ef_18]; exact up_self
        refine lv_iload_n hx hb dX9_copyTo_43 rfl (lv_at hl 4 rfl) ?_
        refine lv_iload hx hb dX9_copyTo_44 (lv_at hl 0 rfl) ?_
        refine lv_iadd hx hb dX9_copyTo_46 ?_
        refine lv_topi (fun x_22 ex_22 => ?_)
        have hx_22 : x_22.toInt = p3.toInt + x_5.toInt := by rw [ex_22, ad_I (by omega) (by omega)]
        have bx_22 : (1 ≤ x_22.toInt ∧ x_22.toInt ≤ 20) := by constructor <;> omega
        have hclc_23 : (0 ≤ x_22.toInt ∧ x_22.toInt ≤ 12) := by constructor <;> omega
        exact W.iret (v := x_22) hx hb hr (fun t ht hW => ⟨⟨x_22, f_18, rfl, ⟨hG, (by constructor <;> omega), hfr0⟩, by rw [ht]; exact hP, va_K.moved hW.alike hK, pl_in hD⟩, hS.F ht⟩) hS.2.2 dX9_copyTo_47
      · skip
        rw [Int32.le_iff_toInt_le, ti_12] at c_13
        refine lv_iload_n hx hb dX9_copyTo_26 rfl (lv_at hl 4 rfl) ?_
        exact W.iret (v := p3) hx hb hr (fun t ht hW => ⟨⟨p3, f, rfl, ⟨hG, (by constructor <;> omega), hfr0⟩, by rw [ht]; exact hP, va_K.moved hW.alike hK, pl_in hD⟩, hS.F ht⟩) hS.2.2 dX9_copyTo_27
