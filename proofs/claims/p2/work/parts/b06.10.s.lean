set_option maxHeartbeats 8000000 in
set_option maxRecDepth 100000 in
theorem s_X3_takeSigns_k3_a538 (l : Launch) (D : va_G) (cI cL cZ cR cG cH : ClassId) (Z : zT) (kd : Nat → Nat) (L : List Nat) (f : Nat → va_E) (hG : GI (okc cI cL cZ cR cG cH L kd) kd L f) (o0 : Nat) (mo0 : o0 ∈ L) (ko0 : kd o0 = 3) (o1 : Nat) (mo1 : o1 ∈ L) (ko1 : kd o1 = 538) (p2 : Int32) : mPV l D cI cL cZ cR cG cH Z yX3_takeSigns cX3_takeSigns 3 none 1 40 [.ref o0, .ref o1, .int p2] L f (fun (f9 : Nat → va_E) => GI (okc cI cL cZ cR cG cH L kd) kd L f9 ∧ (∀ b, kd b ≠ 3 → kd b ≠ 507 → f9 b = f b) ∧ (∀ b, kd b = 3 → fldR (f9 b) 0 = fldR (f b) 0) ∧ (∀ b, kd b = 3 → fldR (f9 b) 3 = fldR (f b) 3)) := by
  obtain ⟨dC, dI⟩ := D
  refine Met.ofW (cc := cX3_takeSigns) (maxL := 3) (ret := none) (by decide) rfl ?_
  intro p e s m args below meth c s₁ B hml hv
  obtain ⟨rfl, hP, hK, hD0, hN, hZ⟩ := hv
  have hx := B.exec
  have hb := B.bytes
  have hr := B.returns
  have hU : ∀ w ∈ wsU, w.before _ s = true := fun w h => atoms_spec (ws := wU yX3_takeSigns cX3_takeSigns 3 none) B.pre w (List.mem_cons_of_mem _ h)
  have hown : s.vm.findClass RX3 = some m.cls := findClass_of_methodNamed B.named
  have hlocks := B.notSynchronized
  have hD := pl_in hD0
  have hS : va_S (fun q => q ∈ L) s.heap s.heap [] := va_S.rf
  have hl := lv_entry ([.ref o0, .ref o1, .int p2]) (n := 3) (Nat.le_of_ble_eq_true rfl)
  rw [lg_entry_eq]
  generalize (lg_sl ([.ref o0, .ref o1, .int p2]) ++ List.replicate (3 - (lg_sl ([.ref o0, .ref o1, .int p2])).length) Slot.unset).toArray = ls at hl ⊢
  have hl : lv_has ls 3 [(0, .ref o0), (1, .ref o1), (2, .int p2)] := hl
  have bp2 : ((-2147483648) ≤ p2.toInt ∧ p2.toInt ≤ 2147483647) := ⟨i32_lo _, i32_hi _⟩
  have hfr0 : ∀ b, kd b ≠ 3 → kd b ≠ 507 → f b = f b := fun _ _ _ => rfl
  have hrr3_0 : ∀ b, kd b = 3 → fldR (f b) 0 = fldR (f b) 0 := fun _ _ => rfl
  have hrr3_3 : ∀ b, kd b = 3 → fldR (f b) 3 = fldR (f b) 3 := fun _ _ => rfl
  refine lv_aload_n hx hb dX3_takeSigns_0 rfl (lv_at hl 0 rfl) ?_
  refine lv_iconst (v := 0) hx hb dX3_takeSigns_1 (by decide) ?_
  refine lv_iload_n hx hb dX3_takeSigns_2 rfl (lv_at hl 2 rfl) ?_
  refine lv_aload_n hx hb dX3_takeSigns_3 rfl (lv_at hl 1 rfl) ?_
  obtain ⟨g_2, hfo_1, hbg_2⟩ := un_538 (hG _ mo1) ko1
  refine tk_alenP (v := 2) hx hb hK hP 0 mo1 hfo_1 rfl rfl dX3_takeSigns_4 ?_
  refine lv_bipush (v := 8) hx hb dX3_takeSigns_5 (by decide) ?_
  refine va_mmin hx hb (by rw [hml]; exact hl.1.symm) hown (hU _ wd_722) (hU _ wd_248) (hU _ wd_249) (hU _ wd_250) (Nat.le_of_ble_eq_true rfl) (Nat.le_of_ble_eq_true rfl) (Nat.le_of_ble_eq_true rfl) (Nat.le_of_ble_eq_true rfl) dX3_takeSigns_7 ?_
  refine tk_topi (y := 2) (by decide) ?_
  refine va_mmin hx hb (by rw [hml]; exact hl.1.symm) hown (hU _ wd_722) (hU _ wd_248) (hU _ wd_249) (hU _ wd_250) (Nat.le_of_ble_eq_true rfl) (Nat.le_of_ble_eq_true rfl) (Nat.le_of_ble_eq_true rfl) (Nat.le_of_ble_eq_true rfl) dX3_takeSigns_10 ?_
  refine lv_topi (fun x_3 ex_3 => ?_)
  have hx_3 := min_I ex_3
  rw [ti_2] at hx_3
  have bx_3 : ((-2147483648) ≤ x_3.toInt ∧ x_3.toInt ≤ 2) := by constructor <;> omega
  refine va_mmax hx hb (by rw [hml]; exact hl.1.symm) hown (hU _ wd_723) (hU _ wd_724) (hU _ wd_249) (hU _ wd_725) (Nat.le_of_ble_eq_true rfl) (Nat.le_of_ble_eq_true rfl) (Nat.le_of_ble_eq_true rfl) (Nat.le_of_ble_eq_true rfl) dX3_takeSigns_13 ?_
  refine lv_topi (fun x_4 ex_4 => ?_)
  have hx_4 := max_I ex_4
  rw [ti_0] at hx_4
  have bx_4 : (0 ≤ x_4.toInt ∧ x_4.toInt ≤ 2) := by constructor <;> omega
  obtain ⟨a_6, a_7, a_8, a_9, a_10, v_11, v_12, v_13, v_14, v_15, v_16, v_17, a_18, a_19, a_20, v_21, a_22, a_23, hfo_5, ⟨ma_6, ka_6⟩, ⟨ma_7, ka_7⟩, ⟨ma_8, ka_8⟩, ⟨ma_9, ka_9⟩, ⟨ma_10, ka_10⟩, bv_11, bv_12, bv_13, ⟨ma_18, ka_18⟩, ⟨ma_19, ka_19⟩, ⟨ma_20, ka_20⟩, bv_21, ⟨ma_22, ka_22⟩, ⟨ma_23, ka_23⟩⟩ := un_3 (hG _ mo0) ko0
  have bv_14 : ((-2147483648) ≤ v_14.toInt ∧ v_14.toInt ≤ 2147483647) := ⟨i32_lo _, i32_hi _⟩
  have bv_15 : ((-2147483648) ≤ v_15.toInt ∧ v_15.toInt ≤ 2147483647) := ⟨i32_lo _, i32_hi _⟩
  have bv_16 : ((-2147483648) ≤ v_16.toInt ∧ v_16.toInt ≤ 2147483647) := ⟨i32_lo _, i32_hi _⟩
  have bv_17 : ((-2147483648) ≤ v_17.toInt ∧ v_17.toInt ≤ 2147483647) := ⟨i32_lo _, i32_hi _⟩
  refine tk_putP (D := (dC, dI)) (ci := 3) (v := .int x_4) (ty := .int) (C := RX3) (T := TX3) (N := 18) hx hb hU inlX3 tyX3 tyX3_ok nmX3 hown hK hP hD hS mo0 hfo_5 rfl 5 (by decide) (hU _ wd_726) (fun _ h9 => h9) rfl (by decide +kernel) rfl rfl (Nat.le_of_ble_eq_true rfl) dX3_takeSigns_16 (fun H locs hP hD hS => ?_)
  obtain ⟨f_25, ef_25⟩ : ∃ y : Nat → va_E, y = va_up f o0 (.inr (3, [.ref a_6, .ref a_7, .ref a_8, .ref a_9, .ref a_10, .int x_4, .int v_12, .int v_13, .int v_14, .int v_15, .int v_16, .int v_17, .ref a_18, .ref a_19, .ref a_20, .int v_21, .ref a_22, .ref a_23])) := ⟨_, rfl⟩
  have hP : va_P (dC, dI) vwCl (va_pl L f_25) H := by rw [ef_25]; exact hP
  have hD : va_D (fun q => q ∈ L) (va_pl L f_25) := by rw [ef_25]; exact hD
  have hG : GI (okc cI cL cZ cR cG cH L kd) kd L f_25 := by rw [ef_25]; exact hG.set o0 (mk_3 ko0 ⟨a_6, a_7, a_8, a_9, a_10, x_4, v_12, v_13, v_14, v_15, v_16, v_17, a_18, a_19, a_20, v_21, a_22, a_23, rfl, ⟨ma_6, ka_6⟩, ⟨ma_7, ka_7⟩, ⟨ma_8, ka_8⟩, ⟨ma_9, ka_9⟩, ⟨ma_10, ka_10⟩, (by constructor <;> omega), (by constructor <;> omega), (by constructor <;> omega), ⟨ma_18, ka_18⟩, ⟨ma_19, ka_19⟩, ⟨ma_20, ka_20⟩, (by constructor <;> omega), ⟨ma_22, ka_22⟩, ⟨ma_23, ka_23⟩⟩)
  have hfo_26 : f_25 o1 = .inl (cI, 2, .inl g_2) := by rw [ef_25, up_ne (kd_ne ko0 ko1 (by decide))]; exact hfo_1
  have hfr0 : ∀ b, kd b ≠ 3 → kd b ≠ 507 → f_25 b = f b := fun b q3 q507 => (congrFun ef_25 b).trans ((up_ne (fun e9 => q3 (by rw [e9]; exact ko0))).trans (hfr0 b q3 q507))
  have hrr3_0 : ∀ b, kd b = 3 → fldR (f_25 b) 0 = fldR (f b) 0 := fun b kb => ((congrArg (fun x => fldR x 0) (congrFun ef_25 b)).trans (fr_up (by rw [hfo_5]; rfl) b)).trans (hrr3_0 b kb)
  have hrr3_3 : ∀ b, kd b = 3 → fldR (f_25 b) 3 = fldR (f b) 3 := fun b kb => ((congrArg (fun x => fldR x 3) (congrFun ef_25 b)).trans (fr_up (by rw [hfo_5]; rfl) b)).trans (hrr3_3 b kb)
  have hfo_27 : f_25 o0 = .inr (3, [.ref a_6, .ref a_7, .ref a_8, .ref a_9, .ref a_10, .int x_4, .int v_12, .int v_13, .int v_14, .int v_15, .int v_16, .int v_17, .ref a_18, .ref a_19, .ref a_20, .int v_21, .ref a_22, .ref a_23]) := by rw [ef_25]; exact up_self
  refine lv_aload_n hx hb dX3_takeSigns_19 rfl (lv_at hl 1 rfl) ?_
  refine lv_iconst (v := 0) hx hb dX3_takeSigns_20 (by decide) ?_
  refine lv_aload_n hx hb dX3_takeSigns_21 rfl (lv_at hl 0 rfl) ?_
  refine tk_getP (D := (dC, dI)) (ci := 3) (v := .ref a_10) (C := RX3) (T := TX3) (N := 18) hx hb hU inlX3 hown hK hP mo0 hfo_27 rfl 4 (by decide) (hU _ wd_61) (fun _ h9 => h9) rfl dX3_takeSigns_22 ?_
  refine lv_iconst (v := 0) hx hb dX3_takeSigns_25 (by decide) ?_
  refine lv_aload_n hx hb dX3_takeSigns_26 rfl (lv_at hl 0 rfl) ?_
  refine tk_getP (D := (dC, dI)) (ci := 3) (v := .int x_4) (C := RX3) (T := TX3) (N := 18) hx hb hU inlX3 hown hK hP mo0 hfo_27 rfl 5 (by decide) (hU _ wd_726) (fun _ h9 => h9) rfl dX3_takeSigns_27 ?_
  obtain ⟨g_29, hfo_28, hbg_29⟩ := un_507 (hG _ ma_10) ka_10
  refine tk_copyP hx hb (by rw [hml]; exact hl.1.symm) hown (hU _ wd_727) (hU _ wd_253) (hU _ wd_254) (hU _ wd_255) hK hP hD hS 0 mo1 ma_10 hfo_26 hfo_28 rfl (by decide) (by decide) (by rw [Int32.lt_iff_toInt_lt, ti_0]; omega) (cp_ok (by rw [ti_0]; omega) (by omega) (by rw [ti_0]; omega)) (cp_ok (by rw [ti_0]; omega) (by omega) (by rw [ti_0]; omega)) (Nat.le_of_ble_eq_true rfl) (Nat.le_of_ble_eq_true rfl) dX3_takeSigns_30 (fun H locs hP hD hS => ?_)
  obtain ⟨f_31, ef_31⟩ : ∃ y : Nat → va_E, y = va_up f_25 a_10 (.inl (cI, 8, .inl (va_cpy g_2 g_29 (Int32.toNatClampNeg 0) (Int32.toNatClampNeg 0) (Int32.toNatClampNeg x_4)))) := ⟨_, rfl⟩
  have hP : va_P (dC, dI) vwCl (va_pl L f_31) H := by rw [ef_31]; exact hP
  have hD : va_D (fun q => q ∈ L) (va_pl L f_31) := by rw [ef_31]; exact hD
  have hG : GI (okc cI cL cZ cR cG cH L kd) kd L f_31 := by rw [ef_31]; exact hG.set a_10 (mk_507 ka_10 ⟨_, rfl, okI_cpy (fun j => by have := hbg_2 j; constructor <;> omega) hbg_29 _ _ _⟩)
  have hfo_32 : f_31 o1 = .inl (cI, 2, .inl g_2) := by rw [ef_31, up_ne (kd_ne ka_10 ko1 (by decide))]; exact hfo_26
  have hfo_33 : f_31 o0 = .inr (3, [.ref a_6, .ref a_7, .ref a_8, .ref a_9, .ref a_10, .int x_4, .int v_12, .int v_13, .int v_14, .int v_15, .int v_16, .int v_17, .ref a_18, .ref a_19, .ref a_20, .int v_21, .ref a_22, .ref a_23]) := by rw [ef_31, up_ne (kd_ne ka_10 ko0 (by decide))]; exact hfo_27
  have hfr0 : ∀ b, kd b ≠ 3 → kd b ≠ 507 → f_31 b = f b := fun b q3 q507 => (congrFun ef_31 b).trans ((up_ne (fun e9 => q507 (by rw [e9]; exact ka_10))).trans (hfr0 b q3 q507))
  have hrr3_0 : ∀ b, kd b = 3 → fldR (f_31 b) 0 = fldR (f b) 0 := fun b kb => (congrArg (fun x => fldR x 0) ((congrFun ef_31 b).trans (up_ne (kd_ne ka_10 kb (by decide))))).trans (hrr3_0 b kb)
  have hrr3_3 : ∀ b, kd b = 3 → fldR (f_31 b) 3 = fldR (f b) 3 := fun b kb => (congrArg (fun x => fldR x 3) ((congrFun ef_31 b).trans (up_ne (kd_ne ka_10 kb (by decide))))).trans (hrr3_3 b kb)
  have hfo_34 : f_31 a_10 = .inl (cI, 8, .inl (va_cpy g_2 g_29 (Int32.toNatClampNeg 0) (Int32.toNatClampNeg 0) (Int32.toNatClampNeg x_4))) := by rw [ef_31]; exact up_self
  exact W.vret hx hb hr (fun t ht hW => ⟨⟨f_31, rfl, ⟨hG, hfr0, hrr3_0, hrr3_3⟩, by rw [ht]; exact hP, va_K.moved hW.alike hK, pl_in hD⟩, hS.F ht⟩) hS.2.2 dX3_takeSigns_33
set_option maxHeartbeats 8000000 in
set_option maxRecDepth 100000 in
theorem s_X3_takeSigns_k3_a540_w (l : Launch) (D : va_G) (cI cL cZ cR cG cH : ClassId) (Z : zT) (kd : Nat → Nat) (L : List Nat) (f : Nat → va_E) (hG : GI (okc cI cL cZ cR cG cH L kd) kd L f) (o0 : Nat) (mo0 : o0 ∈ L) (ko0 : kd o0 = 3) (o1 : Nat) (mo1 : o1 ∈ L) (ko1 : kd o1 = 540) (p2 : Int32) (hxpre0 : ∀ g9, f o1 = .inl (cI, 16, .inl g9) → ∀ j : Nat, (j : Int) < p2.toInt → (g9 j).toInt ≤ 8) : mPV l D cI cL cZ cR cG cH Z yX3_takeSigns cX3_takeSigns 3 none 1 40 [.ref o0, .ref o1, .int p2] L f (fun (f9 : Nat → va_E) => GI (okc cI cL cZ cR cG cH L kd) kd L f9 ∧ (∀ b, kd b ≠ 3 → kd b ≠ 507 → f9 b = f b) ∧ (∀ b, kd b = 3 → fldR (f9 b) 0 = fldR (f b) 0) ∧ (∀ b, kd b = 3 → fldR (f9 b) 3 = fldR (f b) 3)) := by
  obtain ⟨dC, dI⟩ := D
  refine Met.ofW (cc := cX3_takeSigns) (maxL := 3) (ret := none) (by decide) rfl ?_
  intro p e s m args below meth c s₁ B hml hv
  obtain ⟨rfl, hP, hK, hD0, hN, hZ⟩ := hv
  have hx := B.exec
  have hb := B.bytes
  have hr := B.returns
  have hU : ∀ w ∈ wsU, w.before _ s = true := fun w h => atoms_spec (ws := wU yX3_takeSigns cX3_takeSigns 3 none) B.pre w (List.mem_cons_of_mem _ h)
  have hown : s.vm.findClass RX3 = some m.cls := findClass_of_methodNamed B.named
  have hlocks := B.notSynchronized
  have hD := pl_in hD0
  have hS : va_S (fun q => q ∈ L) s.heap s.heap [] := va_S.rf
  have hl := lv_entry ([.ref o0, .ref o1, .int p2]) (n := 3) (Nat.le_of_ble_eq_true rfl)
  rw [lg_entry_eq]
  generalize (lg_sl ([.ref o0, .ref o1, .int p2]) ++ List.replicate (3 - (lg_sl ([.ref o0, .ref o1, .int p2])).length) Slot.unset).toArray = ls at hl ⊢
  have hl : lv_has ls 3 [(0, .ref o0), (1, .ref o1), (2, .int p2)] := hl
  have bp2 : ((-2147483648) ≤ p2.toInt ∧ p2.toInt ≤ 2147483647) := ⟨i32_lo _, i32_hi _⟩
  have hfr0 : ∀ b, kd b ≠ 3 → kd b ≠ 507 → f b = f b := fun _ _ _ => rfl
  have hrr3_0 : ∀ b, kd b = 3 → fldR (f b) 0 = fldR (f b) 0 := fun _ _ => rfl
  have hrr3_3 : ∀ b, kd b = 3 → fldR (f b) 3 = fldR (f b) 3 := fun _ _ => rfl
  obtain ⟨g_2, hfo_1, hbg_2⟩ := un_540 (hG _ mo1) ko1
  refine lv_aload_n hx hb dX3_takeSigns_0 rfl (lv_at hl 0 rfl) ?_
  refine lv_iconst (v := 0) hx hb dX3_takeSigns_1 (by decide) ?_
  refine lv_iload_n hx hb dX3_takeSigns_2 rfl (lv_at hl 2 rfl) ?_
  refine lv_aload_n hx hb dX3_takeSigns_3 rfl (lv_at hl 1 rfl) ?_
  refine tk_alenP (v := 16) hx hb hK hP 0 mo1 hfo_1 rfl rfl dX3_takeSigns_4 ?_
  refine lv_bipush (v := 8) hx hb dX3_takeSigns_5 (by decide) ?_
  refine va_mmin hx hb (by rw [hml]; exact hl.1.symm) hown (hU _ wd_722) (hU _ wd_248) (hU _ wd_249) (hU _ wd_250) (Nat.le_of_ble_eq_true rfl) (Nat.le_of_ble_eq_true rfl) (Nat.le_of_ble_eq_true rfl) (Nat.le_of_ble_eq_true rfl) dX3_takeSigns_7 ?_
  refine tk_topi (y := 8) (by decide) ?_
  refine va_mmin hx hb (by rw [hml]; exact hl.1.symm) hown (hU _ wd_722) (hU _ wd_248) (hU _ wd_249) (hU _ wd_250) (Nat.le_of_ble_eq_true rfl) (Nat.le_of_ble_eq_true rfl) (Nat.le_of_ble_eq_true rfl) (Nat.le_of_ble_eq_true rfl) dX3_takeSigns_10 ?_
  refine lv_topi (fun x_3 ex_3 => ?_)
  have hx_3 := min_I ex_3
  rw [ti_8] at hx_3
  have bx_3 : ((-2147483648) ≤ x_3.toInt ∧ x_3.toInt ≤ 8) := by constructor <;> omega
  refine va_mmax hx hb (by rw [hml]; exact hl.1.symm) hown (hU _ wd_723) (hU _ wd_724) (hU _ wd_249) (hU _ wd_725) (Nat.le_of_ble_eq_true rfl) (Nat.le_of_ble_eq_true rfl) (Nat.le_of_ble_eq_true rfl) (Nat.le_of_ble_eq_true rfl) dX3_takeSigns_13 ?_
  refine lv_topi (fun x_4 ex_4 => ?_)
  have hx_4 := max_I ex_4
  rw [ti_0] at hx_4
  have bx_4 : (0 ≤ x_4.toInt ∧ x_4.toInt ≤ 8) := by constructor <;> omega
  obtain ⟨a_6, a_7, a_8, a_9, a_10, v_11, v_12, v_13, v_14, v_15, v_16, v_17, a_18, a_19, a_20, v_21, a_22, a_23, hfo_5, ⟨ma_6, ka_6⟩, ⟨ma_7, ka_7⟩, ⟨ma_8, ka_8⟩, ⟨ma_9, ka_9⟩, ⟨ma_10, ka_10⟩, bv_11, bv_12, bv_13, ⟨ma_18, ka_18⟩, ⟨ma_19, ka_19⟩, ⟨ma_20, ka_20⟩, bv_21, ⟨ma_22, ka_22⟩, ⟨ma_23, ka_23⟩⟩ := un_3 (hG _ mo0) ko0
  have bv_14 : ((-2147483648) ≤ v_14.toInt ∧ v_14.toInt ≤ 2147483647) := ⟨i32_lo _, i32_hi _⟩
  have bv_15 : ((-2147483648) ≤ v_15.toInt ∧ v_15.toInt ≤ 2147483647) := ⟨i32_lo _, i32_hi _⟩
  have bv_16 : ((-2147483648) ≤ v_16.toInt ∧ v_16.toInt ≤ 2147483647) := ⟨i32_lo _, i32_hi _⟩
  have bv_17 : ((-2147483648) ≤ v_17.toInt ∧ v_17.toInt ≤ 2147483647) := ⟨i32_lo _, i32_hi _⟩
  refine tk_putP (D := (dC, dI)) (ci := 3) (v := .int x_4) (ty := .int) (C := RX3) (T := TX3) (N := 18) hx hb hU inlX3 tyX3 tyX3_ok nmX3 hown hK hP hD hS mo0 hfo_5 rfl 5 (by decide) (hU _ wd_726) (fun _ h9 => h9) rfl (by decide +kernel) rfl rfl (Nat.le_of_ble_eq_true rfl) dX3_takeSigns_16 (fun H locs hP hD hS => ?_)
  obtain ⟨f_25, ef_25⟩ : ∃ y : Nat → va_E, y = va_up f o0 (.inr (3, [.ref a_6, .ref a_7, .ref a_8, .ref a_9, .ref a_10, .int x_4, .int v_12, .int v_13, .int v_14, .int v_15, .int v_16, .int v_17, .ref a_18, .ref a_19, .ref a_20, .int v_21, .ref a_22, .ref a_23])) := ⟨_, rfl⟩
  have hP : va_P (dC, dI) vwCl (va_pl L f_25) H := by rw [ef_25]; exact hP
  have hD : va_D (fun q => q ∈ L) (va_pl L f_25) := by rw [ef_25]; exact hD
  have hG : GI (okc cI cL cZ cR cG cH L kd) kd L f_25 := by rw [ef_25]; exact hG.set o0 (mk_3 ko0 ⟨a_6, a_7, a_8, a_9, a_10, x_4, v_12, v_13, v_14, v_15, v_16, v_17, a_18, a_19, a_20, v_21, a_22, a_23, rfl, ⟨ma_6, ka_6⟩, ⟨ma_7, ka_7⟩, ⟨ma_8, ka_8⟩, ⟨ma_9, ka_9⟩, ⟨ma_10, ka_10⟩, (by constructor <;> omega), (by constructor <;> omega), (by constructor <;> omega), ⟨ma_18, ka_18⟩, ⟨ma_19, ka_19⟩, ⟨ma_20, ka_20⟩, (by constructor <;> omega), ⟨ma_22, ka_22⟩, ⟨ma_23, ka_23⟩⟩)
  have hfo_26 : f_25 o1 = .inl (cI, 16, .inl g_2) := by rw [ef_25, up_ne (kd_ne ko0 ko1 (by decide))]; exact hfo_1
  have hfr0 : ∀ b, kd b ≠ 3 → kd b ≠ 507 → f_25 b = f b := fun b q3 q507 => (congrFun ef_25 b).trans ((up_ne (fun e9 => q3 (by rw [e9]; exact ko0))).trans (hfr0 b q3 q507))
  have hrr3_0 : ∀ b, kd b = 3 → fldR (f_25 b) 0 = fldR (f b) 0 := fun b kb => ((congrArg (fun x => fldR x 0) (congrFun ef_25 b)).trans (fr_up (by rw [hfo_5]; rfl) b)).trans (hrr3_0 b kb)
  have hrr3_3 : ∀ b, kd b = 3 → fldR (f_25 b) 3 = fldR (f b) 3 := fun b kb => ((congrArg (fun x => fldR x 3) (congrFun ef_25 b)).trans (fr_up (by rw [hfo_5]; rfl) b)).trans (hrr3_3 b kb)
  have hfo_27 : f_25 o0 = .inr (3, [.ref a_6, .ref a_7, .ref a_8, .ref a_9, .ref a_10, .int x_4, .int v_12, .int v_13, .int v_14, .int v_15, .int v_16, .int v_17, .ref a_18, .ref a_19, .ref a_20, .int v_21, .ref a_22, .ref a_23]) := by rw [ef_25]; exact up_self
  refine lv_aload_n hx hb dX3_takeSigns_19 rfl (lv_at hl 1 rfl) ?_
  refine lv_iconst (v := 0) hx hb dX3_takeSigns_20 (by decide) ?_
  refine lv_aload_n hx hb dX3_takeSigns_21 rfl (lv_at hl 0 rfl) ?_
  refine tk_getP (D := (dC, dI)) (ci := 3) (v := .ref a_10) (C := RX3) (T := TX3) (N := 18) hx hb hU inlX3 hown hK hP mo0 hfo_27 rfl 4 (by decide) (hU _ wd_61) (fun _ h9 => h9) rfl dX3_takeSigns_22 ?_
  refine lv_iconst (v := 0) hx hb dX3_takeSigns_25 (by decide) ?_
  refine lv_aload_n hx hb dX3_takeSigns_26 rfl (lv_at hl 0 rfl) ?_
  refine tk_getP (D := (dC, dI)) (ci := 3) (v := .int x_4) (C := RX3) (T := TX3) (N := 18) hx hb hU inlX3 hown hK hP mo0 hfo_27 rfl 5 (by decide) (hU _ wd_726) (fun _ h9 => h9) rfl dX3_takeSigns_27 ?_
  obtain ⟨g_29, hfo_28, hbg_29⟩ := un_507 (hG _ ma_10) ka_10
  refine tk_copyP hx hb (by rw [hml]; exact hl.1.symm) hown (hU _ wd_727) (hU _ wd_253) (hU _ wd_254) (hU _ wd_255) hK hP hD hS 0 mo1 ma_10 hfo_26 hfo_28 rfl (by decide) (by decide) (by rw [Int32.lt_iff_toInt_lt, ti_0]; omega) (cp_ok (by rw [ti_0]; omega) (by omega) (by rw [ti_0]; omega)) (cp_ok (by rw [ti_0]; omega) (by omega) (by rw [ti_0]; omega)) (Nat.le_of_ble_eq_true rfl) (Nat.le_of_ble_eq_true rfl) dX3_takeSigns_30 (fun H locs hP hD hS => ?_)
  obtain ⟨f_31, ef_31⟩ : ∃ y : Nat → va_E, y = va_up f_25 a_10 (.inl (cI, 8, .inl (va_cpy g_2 g_29 (Int32.toNatClampNeg 0) (Int32.toNatClampNeg 0) (Int32.toNatClampNeg x_4)))) := ⟨_, rfl⟩
  have hP : va_P (dC, dI) vwCl (va_pl L f_31) H := by rw [ef_31]; exact hP
  have hD : va_D (fun q => q ∈ L) (va_pl L f_31) := by rw [ef_31]; exact hD
  have hG : GI (okc cI cL cZ cR cG cH L kd) kd L f_31 := by rw [ef_31]; exact hG.set a_10 (mk_507 ka_10 ⟨_, rfl, okI_cp2 (fun j h1 h2 => by have hcn := cl_I (i := x_4) (by omega); have hc0 : Int32.toNatClampNeg 0 = 0 := (by decide); have h8 := hxpre0 g_2 hfo_1 j (by omega); have h7 := hbg_2 j; constructor <;> omega) hbg_29⟩)
  have hfo_32 : f_31 o1 = .inl (cI, 16, .inl g_2) := by rw [ef_31, up_ne (kd_ne ka_10 ko1 (by decide))]; exact hfo_26
  have hfo_33 : f_31 o0 = .inr (3, [.ref a_6, .ref a_7, .ref a_8, .ref a_9, .ref a_10, .int x_4, .int v_12, .int v_13, .int v_14, .int v_15, .int v_16, .int v_17, .ref a_18, .ref a_19, .ref a_20, .int v_21, .ref a_22, .ref a_23]) := by rw [ef_31, up_ne (kd_ne ka_10 ko0 (by decide))]; exact hfo_27
  have hfr0 : ∀ b, kd b ≠ 3 → kd b ≠ 507 → f_31 b = f b := fun b q3 q507 => (congrFun ef_31 b).trans ((up_ne (fun e9 => q507 (by rw [e9]; exact ka_10))).trans (hfr0 b q3 q507))
  have hrr3_0 : ∀ b, kd b = 3 → fldR (f_31 b) 0 = fldR (f b) 0 := fun b kb => (congrArg (fun x => fldR x 0) ((congrFun ef_31 b).trans (up_ne (kd_ne ka_10 kb (by decide))))).trans (hrr3_0 b kb)
  have hrr3_3 : ∀ b, kd b = 3 → fldR (f_31 b) 3 = fldR (f b) 3 := fun b kb => (congrArg (fun x => fldR x 3) ((congrFun ef_31 b).trans (up_ne (kd_ne ka_10 kb (by decide))))).trans (hrr3_3 b kb)
  have hfo_34 : f_31 a_10 = .inl (cI, 8, .inl (va_cpy g_2 g_29 (Int32.toNatClampNeg 0) (Int32.toNatClampNeg 0) (Int32.toNatClampNeg x_4))) := by rw [ef_31]; exact up_self
  exact W.vret hx hb hr (fun t ht hW => ⟨⟨f_31, rfl, ⟨hG, hfr0, hrr3_0, hrr3_3⟩, by rw [ht]; exact hP, va_K.moved hW.alike hK, pl_in hD⟩, hS.F ht⟩) hS.2.2 dX3_takeSigns_33
set_option maxHeartbeats 8000000 in
set_option maxRecDepth 100000 in
theorem s_X9_copyTo_k9_a507_n (l : Launch) (D : va_G) (cI cL cZ cR cG cH : ClassId) (Z : zT) (kd : Nat → Nat) (L : List Nat) (f : Nat → va_E) (hG : GI (okc cI cL cZ cR cG cH L kd) kd L f) (o0 : Nat) (mo0 : o0 ∈ L) (ko0 : kd o0 = 9) (p1 : Int32) (o2 : Nat) (mo2 : o2 ∈ L) (ko2 : kd o2 = 507) (p3 : Int32) (bp3 : (0 ≤ p3.toInt ∧ p3.toInt ≤ 8)) : mPI l D cI cL cZ cR cG cH Z yX9_copyTo cX9_copyTo 5 (some .int) 1 40 [.ref o0, .int p1, .ref o2, .int p3] L f (fun (r : Int32) (f9 : Nat → va_E) => GI (okc cI cL cZ cR cG cH L kd) kd L f9 ∧ (0 ≤ r.toInt ∧ r.toInt ≤ 8) ∧ (∀ b, kd b ≠ 507 → f9 b = f b)) := by
  obtain ⟨dC, dI⟩ := D
  refine Met.ofW (cc := cX9_copyTo) (maxL := 5) (ret := (some .int)) (by decide) rfl ?_
  intro p e s m args below meth c s₁ B hml hv
  obtain ⟨rfl, hP, hK, hD0, hN, hZ⟩ := hv
  have hx := B.exec
  have hb := B.bytes
  have hr := B.returns
  have hU : ∀ w ∈ wsU, w.before _ s = true := fun w h => atoms_spec (ws := wU yX9_copyTo cX9_copyTo 5 (some .int)) B.pre w (List.mem_cons_of_mem _ h)
  have hown : s.vm.findClass RX9 = some m.cls := findClass_of_methodNamed B.named
  have hlocks := B.notSynchronized
  have hD := pl_in hD0
  have hS : va_S (fun q => q ∈ L) s.heap s.heap [] := va_S.rf
  have hl := lv_entry ([.ref o0, .int p1, .ref o2, .int p3]) (n := 5) (Nat.le_of_ble_eq_true rfl)
  rw [lg_entry_eq]
  generalize (lg_sl ([.ref o0, .int p1, .ref o2, .int p3]) ++ List.replicate (5 - (lg_sl ([.ref o0, .int p1, .ref o2, .int p3])).length) Slot.unset).toArray = ls at hl ⊢
  have hl : lv_has ls 5 [(0, .ref o0), (1, .int p1), (2, .ref o2), (3, .int p3)] := hl
  have bp1 : ((-2147483648) ≤ p1.toInt ∧ p1.toInt ≤ 2147483647) := ⟨i32_lo _, i32_hi _⟩
  have hfr0 : ∀ b, kd b ≠ 507 → f b = f b := fun _ _ => rfl
  refine lv_aload_n hx hb dX9_copyTo_0 rfl (lv_at hl 0 rfl) ?_
  refine lv_iload_n hx hb dX9_copyTo_1 rfl (lv_at hl 1 rfl) ?_
  obtain ⟨a_2, a_3, v_4, hfo_1, ⟨ma_2, ka_2⟩, ⟨ma_3, ka_3⟩, bv_4⟩ := un_9 (hG _ mo0) ko0
  refine tk_ViP (As := [.int p1]) (rest := []) (n := 1) hx hb hml hown hU hN hZ (s_X9_lengthOf_k9 l (dC, dI) cI cL cZ cR cG cH Z kd L f hG o0 mo0 ko0 p1) wd_1010 wd_1011 wd_1012 wd_85 wd_1013 (by decide +kernel) ⟨Nat.le_of_ble_eq_true rfl, Nat.le_of_ble_eq_true rfl⟩ hK hP hD hS mo0 hfo_1 9 rfl rfl rfl hl.1 rfl (Nat.le_of_ble_eq_true rfl) dX9_copyTo_2 ⟨Nat.le_of_ble_eq_true rfl, Nat.le_of_ble_eq_true rfl⟩ (fun x_5 f_6 H locs hw hP hD hS => ?_)
  obtain ⟨rfl, bx_5, relx_5⟩ := hw
  refine lv_istore (lv' := [(4, .int x_5), (0, .ref o0), (1, .int p1), (2, .ref o2), (3, .int p3)]) hx hb dX9_copyTo_5 hl (by decide) rfl (fun ls hl => ?_)
  refine lv_iload hx hb dX9_copyTo_7 (lv_at hl 0 rfl) ?_
  refine lv_iconst (v := 1) hx hb dX9_copyTo_9 (by decide) ?_
  refine lv_icmp_lt (tgt := 26) hx hb dX9_copyTo_10 (by decide) (fun c_8 => ?_) (fun c_8 => ?_)
  · skip
    rw [Int32.lt_iff_toInt_lt, ti_1] at c_8
    refine lv_iload_n hx hb dX9_copyTo_26 rfl (lv_at hl 4 rfl) ?_
    exact W.iret (v := p3) hx hb hr (fun t ht hW => ⟨⟨p3, f, rfl, ⟨hG, (by constructor <;> omega), hfr0⟩, by rw [ht]; exact hP, va_K.moved hW.alike hK, pl_in hD⟩, hS.F ht⟩) hS.2.2 dX9_copyTo_27
  · skip
    rw [Int32.lt_iff_toInt_lt, ti_1] at c_8
    refine lv_iload_n hx hb dX9_copyTo_13 rfl (lv_at hl 4 rfl) ?_
    refine lv_if_lt (tgt := 26) hx hb dX9_copyTo_14 (by decide) (fun c_9 => ?_) (fun c_9 => ?_)
    · skip
      rw [Int32.lt_iff_toInt_lt, ti_0] at c_9
      exfalso
      omega
    · skip
      rw [Int32.lt_iff_toInt_lt, ti_0] at c_9
      refine lv_iload_n hx hb dX9_copyTo_17 rfl (lv_at hl 4 rfl) ?_
      refine lv_iload hx hb dX9_copyTo_18 (lv_at hl 0 rfl) ?_
      refine lv_iadd hx hb dX9_copyTo_20 ?_
      refine lv_topi (fun x_10 ex_10 => ?_)
      have hx_10 : x_10.toInt = p3.toInt + x_5.toInt := by rw [ex_10, ad_I (by omega) (by omega)]
      have bx_10 : (1 ≤ x_10.toInt ∧ x_10.toInt ≤ 16) := by constructor <;> omega
      refine lv_aload_n hx hb dX9_copyTo_21 rfl (lv_at hl 3 rfl) ?_
      obtain ⟨g_12, hfo_11, hbg_12⟩ := un_507 (hG _ mo2) ko2
      refine tk_alenP (v := 8) hx hb hK hP 0 mo2 hfo_11 rfl rfl dX9_copyTo_22 ?_
      refine lv_icmp_le (tgt := 28) hx hb dX9_copyTo_23 (by decide) (fun c_13 => ?_) (fun c_13 => ?_)
      · skip
        rw [Int32.le_iff_toInt_le, ti_8] at c_13
        refine lv_aload_n hx hb dX9_copyTo_28 rfl (lv_at hl 1 rfl) ?_
        refine tk_getP (D := (dC, dI)) (ci := 9) (v := .ref a_2) (C := RX9) (T := TX9) (N := 3) hx hb hU inlX9 hown hK hP mo0 hfo_1 rfl 0 (by decide) (hU _ wd_95) (fun _ h9 => h9) rfl dX9_copyTo_29 ?_
        refine lv_iload_n hx hb dX9_copyTo_32 rfl (lv_at hl 2 rfl) ?_
        refine lv_bipush (v := 8) hx hb dX9_copyTo_33 (by decide) ?_
        refine lv_imul hx hb dX9_copyTo_35 ?_
        refine lv_topi (fun x_14 ex_14 => ?_)
        have hx_14 : x_14.toInt = p1.toInt * 8 := by rw [ex_14, ml_I (by rw [ti_8]; omega) (by rw [ti_8]; omega), ti_8]
        have bx_14 : (0 ≤ x_14.toInt ∧ x_14.toInt ≤ 88) := by constructor <;> omega
        refine lv_aload_n hx hb dX9_copyTo_36 rfl (lv_at hl 3 rfl) ?_
        refine lv_iload_n hx hb dX9_copyTo_37 rfl (lv_at hl 4 rfl) ?_
        refine lv_iload hx hb dX9_copyTo_38 (lv_at hl 0 rfl) ?_
        obtain ⟨g_16, hfo_15, hbg_16⟩ := un_504 (hG _ ma_2) ka_2
        refine tk_copyP hx hb (by rw [hml]; exact hl.1.symm) hown (hU _ wd_548) (hU _ wd_253) (hU _ wd_254) (hU _ wd_255) hK hP hD hS 0 ma_2 mo2 hfo_15 hfo_11 rfl (by rw [Int32.lt_iff_toInt_lt, ti_0]; omega) (by rw [Int32.lt_iff_toInt_lt, ti_0]; omega) (by rw [Int32.lt_iff_toInt_lt, ti_0]; omega) (cp_ok (by omega) (by omega) (by omega)) (cp_ok (by omega) (by omega) (by omega)) (Nat.le_of_ble_eq_true rfl) (Nat.le_of_ble_eq_true rfl) dX9_copyTo_40 (fun H locs hP hD hS => ?_)
        obtain ⟨f_18, ef_18⟩ : ∃ y : Nat → va_E, y = va_up f o2 (.inl (cI, 8, .inl (va_cpy g_16 g_12 (Int32.toNatClampNeg x_14) (Int32.toNatClampNeg p3) (Int32.toNatClampNeg x_5)))) := ⟨_, rfl⟩
        have hP : va_P (dC, dI) vwCl (va_pl L f_18) H := by rw [ef_18]; exact hP
        have hD : va_D (fun q => q ∈ L) (va_pl L f_18) := by rw [ef_18]; exact hD
        have hG : GI (okc cI cL cZ cR cG cH L kd) kd L f_18 := by rw [ef_18]; exact hG.set o2 (mk_507 ko2 ⟨_, rfl, okI_cpy (fun j => by have := hbg_16 j; constructor <;> omega) hbg_12 _ _ _⟩)
        have hfo_19 : f_18 o0 = .inr (9, [.ref a_2, .ref a_3, .int v_4]) := by rw [ef_18, up_ne (kd_ne ko2 ko0 (by decide))]; exact hfo_1
        have hfo_20 : f_18 a_2 = .inl (cI, 96, .inl g_16) := by rw [ef_18, up_ne (kd_ne ko2 ka_2 (by decide))]; exact hfo_15
        have hfr0 : ∀ b, kd b ≠ 507 → f_18 b = f b := fun b q507 => (congrFun ef_18 b).trans ((up_ne (fun e9 => q507 (by rw [e9]; exact ko2))).trans (hfr0 b q507))
        have hfo_21 : f_18 o2 = .inl (cI, 8, .inl (va_cpy g_16 g_12 (Int32.toNatClampNeg x_14) (Int32.toNatClampNeg p3) (Int32.toNatClampNeg x_5))) := by rw [ef_18]; exact up_self
        refine lv_iload_n hx hb dX9_copyTo_43 rfl (lv_at hl 4 rfl) ?_
        refine lv_iload hx hb dX9_copyTo_44 (lv_at hl 0 rfl) ?_
        refine lv_iadd hx hb dX9_copyTo_46 ?_
        refine lv_topi (fun x_22 ex_22 => ?_)
        have hx_22 : x_22.toInt = p3.toInt + x_5.toInt := by rw [ex_22, ad_I (by omega) (by omega)]
        have bx_22 : (1 ≤ x_22.toInt ∧ x_22.toInt ≤ 16) := by constructor <;> omega
        have hclc_23 : (0 ≤ x_22.toInt ∧ x_22.toInt ≤ 8) := by constructor <;> omega
        exact W.iret (v := x_22) hx hb hr (fun t ht hW => ⟨⟨x_22, f_18, rfl, ⟨hG, (by constructor <;> omega), hfr0⟩, by rw [ht]; exact hP, va_K.moved hW.alike hK, pl_in hD⟩, hS.F ht⟩) hS.2.2 dX9_copyTo_47
      · skip
        rw [Int32.le_iff_toInt_le, ti_8] at c_13
        refine lv_iload_n hx hb dX9_copyTo_26 rfl (lv_at hl 4 rfl) ?_
        exact W.iret (v := p3) hx hb hr (fun t ht hW => ⟨⟨p3, f, rfl, ⟨hG, (by constructor <;> omega), hfr0⟩, by rw [ht]; exact hP, va_K.moved hW.alike hK, pl_in hD⟩, hS.F ht⟩) hS.2.2 dX9_copyTo_27
set_option maxHeartbeats 8000000 in
set_option maxRecDepth 100000 in
theorem s_X9_copyTo_k9_a505_n (l : Launch) (D : va_G) (cI cL cZ cR cG cH : ClassId) (Z : zT) (kd : Nat → Nat) (L : List Nat) (f : Nat → va_E) (hG : GI (okc cI cL cZ cR cG cH L kd) kd L f) (o0 : Nat) (mo0 : o0 ∈ L) (ko0 : kd o0 = 9) (p1 : Int32) (o2 : Nat) (mo2 : o2 ∈ L) (ko2 : kd o2 = 505) (p3 : Int32) (bp3 : (0 ≤ p3.toInt ∧ p3.toInt ≤ 12)) : mPI l D cI cL cZ cR cG cH Z yX9_copyTo cX9_copyTo 5 (some .int) 1 40 [.ref o0, .int p1, .ref o2, .int p3] L f (fun (r : Int32) (f9 : Nat → va_E) => GI (okc cI cL cZ cR cG cH L kd) kd L f9 ∧ (0 ≤ r.toInt ∧ r.toInt ≤ 12) ∧ (∀ b, kd b ≠ 505 → f9 b = f b)) := by
  obtain ⟨dC, dI⟩ := D
  refine Met.ofW (cc := cX9_copyTo) (maxL := 5) (ret := (some .int)) (by decide) rfl ?_
  intro p e s m args below meth c s₁ B hml hv
  obtain ⟨rfl, hP, hK, hD0, hN, hZ⟩ := hv
  have hx := B.exec
  have hb := B.bytes
  have hr := B.returns
  have hU : ∀ w ∈ wsU, w.before _ s = true := fun w h => atoms_spec (ws := wU yX9_copyTo cX9_copyTo 5 (some .int)) B.pre w (List.mem_cons_of_mem _ h)
  have hown : s.vm.findClass RX9 = some m.cls := findClass_of_methodNamed B.named
  have hlocks := B.notSynchronized
  have hD := pl_in hD0
  have hS : va_S (fun q => q ∈ L) s.heap s.heap [] := va_S.rf
  have hl := lv_entry ([.ref o0, .int p1, .ref o2, .int p3]) (n := 5) (Nat.le_of_ble_eq_true rfl)
  rw [lg_entry_eq]
  generalize (lg_sl ([.ref o0, .int p1, .ref o2, .int p3]) ++ List.replicate (5 - (lg_sl ([.ref o0, .int p1, .ref o2, .int p3])).length) Slot.unset).toArray = ls at hl ⊢
  have hl : lv_has ls 5 [(0, .ref o0), (1, .int p1), (2, .ref o2), (3, .int p3)] := hl
  have bp1 : ((-2147483648) ≤ p1.toInt ∧ p1.toInt ≤ 2147483647) := ⟨i32_lo _, i32_hi _⟩
  have hfr0 : ∀ b, kd b ≠ 505 → f b = f b := fun _ _ => rfl
  refine lv_aload_n hx hb dX9_copyTo_0 rfl (lv_at hl 0 rfl) ?_
  refine lv_iload_n hx hb dX9_copyTo_1 rfl (lv_at hl 1 rfl) ?_
  obtain ⟨a_2, a_3, v_4, hfo_1, ⟨ma_2, ka_2⟩, ⟨ma_3, ka_3⟩, bv_4⟩ := un_9 (hG _ mo0) ko0
  refine tk_ViP (As := [.int p1]) (rest := []) (n := 1) hx hb hml hown hU hN hZ (s_X9_lengthOf_k9 l (dC, dI) cI cL cZ cR cG cH Z kd L f hG o0 mo0 ko0 p1) wd_1010 wd_1011 wd_1012 wd_85 wd_1013 (by decide +kernel) ⟨Nat.le_of_ble_eq_true rfl, Nat.le_of_ble_eq_true rfl⟩ hK hP hD hS mo0 hfo_1 9 rfl rfl rfl hl.1 rfl (Nat.le_of_ble_eq_true rfl) dX9_copyTo_2 ⟨Nat.le_of_ble_eq_true rfl, Nat.le_of_ble_eq_true rfl⟩ (fun x_5 f_6 H locs hw hP hD hS => ?_)
  obtain ⟨rfl, bx_5, relx_5⟩ := hw
  refine lv_istore (lv' := [(4, .int x_5), (0, .ref o0), (1, .int p1), (2, .ref o2), (3, .int p3)]) hx hb dX9_copyTo_5 hl (by decide) rfl (fun ls hl => ?_)
  refine lv_iload hx hb dX9_copyTo_7 (lv_at hl 0 rfl) ?_
  refine lv_iconst (v := 1) hx hb dX9_copyTo_9 (by decide) ?_
  refine lv_icmp_lt (tgt := 26) hx hb dX9_copyTo_10 (by decide) (fun c_8 => ?_) (fun c_8 => ?_)
  · skip
    rw [Int32.lt_iff_toInt_lt, ti_1] at c_8
    refine lv_iload_n hx hb dX9_copyTo_26 rfl (lv_at hl 4 rfl) ?_
    exact W.iret (v := p3) hx hb hr (fun t ht hW => ⟨⟨p3, f, rfl, ⟨hG, (by constructor <;> omega), hfr0⟩, by rw [ht]; exact hP, va_K.moved hW.alike hK, pl_in hD⟩, hS.F ht⟩) hS.2.2 dX9_copyTo_27
  · skip
    rw [Int32.lt_iff_toInt_lt, ti_1] at c_8
    refine lv_iload_n hx hb dX9_copyTo_13 rfl (lv_at hl 4 rfl) ?_
    refine lv_if_lt (tgt := 26) hx hb dX9_copyTo_14 (by decide) (fun c_9 => ?_) (fun c_9 => ?_)
    · skip
      rw [Int32.lt_iff_toInt_lt, ti_0] at c_9
      exfalso
      omega
    · skip
      rw [Int32.lt_iff_toInt_lt, ti_0] at c_9
      refine lv_iload_n hx hb dX9_copyTo_17 rfl (lv_at hl 4 rfl) ?_
      refine lv_iload hx hb dX9_copyTo_18 (lv_at hl 0 rfl) ?_
      refine lv_iadd hx hb dX9_copyTo_20 ?_
      refine lv_topi (fun x_10 ex_10 => ?_)
      have hx_10 : x_10.toInt = p3.toInt + x_5.toInt := by rw [ex_10, ad_I (by omega) (by omega)]
      have bx_10 : (1 ≤ x_10.toInt ∧ x_10.toInt ≤ 20) := by constructor <;> omega
      refine lv_aload_n hx hb dX9_copyTo_21 rfl (lv_at hl 3 rfl) ?_
      obtain ⟨g_12, hfo_11, hbg_12⟩ := un_505 (hG _ mo2) ko2
      refine tk_alenP (v := 12) hx hb hK hP 0 mo2 hfo_11 rfl rfl dX9_copyTo_22 ?_
      refine lv_icmp_le (tgt := 28) hx hb dX9_copyTo_23 (by decide) (fun c_13 => ?_) (fun c_13 => ?_)
      · skip
        rw [Int32.le_iff_toInt_le, ti_12] at c_13
        refine lv_aload_n hx hb dX9_copyTo_28 rfl (lv_at hl 1 rfl) ?_
        refine tk_getP (D := (dC, dI)) (ci := 9) (v := .ref a_2) (C := RX9) (T := TX9) (N := 3) hx hb hU inlX9 hown hK hP mo0 hfo_1 rfl 0 (by decide) (hU _ wd_95) (fun _ h9 => h9) rfl dX9_copyTo_29 ?_
        refine lv_iload_n hx hb dX9_copyTo_32 rfl (lv_at hl 2 rfl) ?_
        refine lv_bipush (v := 8) hx hb dX9_copyTo_33 (by decide) ?_
        refine lv_imul hx hb dX9_copyTo_35 ?_
        refine lv_topi (fun x_14 ex_14 => ?_)
        have hx_14 : x_14.toInt = p1.toInt * 8 := by rw [ex_14, ml_I (by rw [ti_8]; omega) (by rw [ti_8]; omega), ti_8]
        have bx_14 : (0 ≤ x_14.toInt ∧ x_14.toInt ≤ 88) := by constructor <;> omega
        refine lv_aload_n hx hb dX9_copyTo_36 rfl (lv_at hl 3 rfl) ?_
        refine lv_iload_n hx hb dX9_copyTo_37 rfl (lv_at hl 4 rfl) ?_
        refine lv_iload hx hb dX9_copyTo_38 (lv_at hl 0 rfl) ?_
        obtain ⟨g_16, hfo_15, hbg_16⟩ := un_504 (hG _ ma_2) ka_2
        refine tk_copyP hx hb (by rw [hml]; exact hl.1.symm) hown (hU _ wd_548) (hU _ wd_253) (hU _ wd_254) (hU _ wd_255) hK hP hD hS 0 ma_2 mo2 hfo_15 hfo_11 rfl (by rw [Int32.lt_iff_toInt_lt, ti_0]; omega) (by rw [Int32.lt_iff_toInt_lt, ti_0]; omega) (by rw [Int32.lt_iff_toInt_lt, ti_0]; omega) (cp_ok (by omega) (by omega) (by omega)) (cp_ok (by omega) (by omega) (by omega)) (Nat.le_of_ble_eq_true rfl) (Nat.le_of_ble_eq_true rfl) dX9_copyTo_40 (fun H locs hP hD hS => ?_)
        obtain ⟨f_18, ef_18⟩ : ∃ y : Nat → va_E, y = va_up f o2 (.inl (cI, 12, .inl (va_cpy g_16 g_12 (Int32.toNatClampNeg x_14) (Int32.toNatClampNeg p3) (Int32.toNatClampNeg x_5)))) := ⟨_, rfl⟩
        have hP : va_P (dC, dI) vwCl (va_pl L f_18) H := by rw [ef_18]; exact hP
        have hD : va_D (fun q => q ∈ L) (va_pl L f_18) := by rw [ef_18]; exact hD
        have hG : GI (okc cI cL cZ cR cG cH L kd) kd L f_18 := by rw [ef_18]; exact hG.set o2 (mk_505 ko2 ⟨_, rfl, okI_cpy (fun j => by have := hbg_16 j; constructor <;> omega) hbg_12 _ _ _⟩)
        have hfo_19 : f_18 o0 = .inr (9, [.ref a_2, .ref a_3, .int v_4]) := by rw [ef_18, up_ne (kd_ne ko2 ko0 (by decide))]; exact hfo_1
        have hfo_20 : f_18 a_2 = .inl (cI, 96, .inl g_16) := by rw [ef_18, up_ne (kd_ne ko2 ka_2 (by decide))]; exact hfo_15
        have hfr0 : ∀ b, kd b ≠ 505 → f_18 b = f b := fun b q505 => (congrFun ef_18 b).trans ((up_ne (fun e9 => q505 (by rw [e9]; exact ko2))).trans (hfr0 b q505))
        have hfo_21 : f_18 o2 = .inl (cI, 12, .inl (va_cpy g_16 g_12 (Int32.toNatClampNeg x_14) (Int32.toNatClampNeg p3) (Int32.toNatClampNeg x_5))) := by rw [ef_18]; exact up_self
        refine lv_iload_n hx hb dX9_copyTo_43 rfl (lv_at hl 4 rfl) ?_
        refine lv_iload hx hb dX9_copyTo_44 (lv_at hl 0 rfl) ?_
        refine lv_iadd hx hb dX9_copyTo_46 ?_
        refine lv_topi (fun x_22 ex_22 => ?_)
        have hx_22 : x_22.toInt = p3.toInt + x_5.toInt := by rw [ex_22, ad_I (by omega) (by omega)]
        have bx_22 : (1 ≤ x_22.toInt ∧ x_22.toInt ≤ 20) := by constructor <;> omega
        have hclc_23 : (0 ≤ x_22.toInt ∧ x_22.toInt ≤ 12) := by constructor <;> omega
        exact W.iret (v := x_22) hx hb hr (fun t ht hW => ⟨⟨x_22, f_18, rfl, ⟨hG, (by constructor <;> omega), hfr0⟩, by rw [ht]; exact hP, va_K.moved hW.alike hK, pl_in hD⟩, hS.F ht⟩) hS.2.2 dX9_copyTo_47
      · skip
        rw [Int32.le_iff_toInt_le, ti_12] at c_13
        refine lv_iload_n hx hb dX9_copyTo_26 rfl (lv_at hl 4 rfl) ?_
        exact W.iret (v := p3) hx hb hr (fun t ht hW => ⟨⟨p3, f, rfl, ⟨hG, (by constructor <;> omega), hfr0⟩, by rw [ht]; exact hP, va_K.moved hW.alike hK, pl_in hD⟩, hS.F ht⟩) hS.2.2 dX9_copyTo_27
set_option maxHeartbeats 8000000 in
set_option maxRecDepth 100000 in
theorem s_X9_copyTo_k13_a505_n (l : Launch) (D : va_G) (cI cL cZ cR cG cH : ClassId) (Z : zT) (kd : Nat → Nat) (L : List Nat) (f : Nat → va_E) (hG : GI (okc cI cL cZ cR cG cH L kd) kd L f) (o0 : Nat) (mo0 : o0 ∈ L) (ko0 : kd o0 = 13) (p1 : Int32) (o2 : Nat) (mo2 : o2 ∈ L) (ko2 : kd o2 = 505) (p3 : Int32) (bp3 : (0 ≤ p3.toInt ∧ p3.toInt ≤ 12)) : mPI l D cI cL cZ cR cG cH Z yX9_copyTo cX9_copyTo 5 (some .int) 1 40 [.ref o0, .int p1, .ref o2, .int p3] L f (fun (r : Int32) (f9 : Nat → va_E) => GI (okc cI cL cZ cR cG cH L kd) kd L f9 ∧ (0 ≤ r.toInt ∧ r.toInt ≤ 12) ∧ (∀ b, kd b ≠ 505 → f9 b = f b)) := by
  obtain ⟨dC, dI⟩ := D
  refine Met.ofW (cc := cX9_copyTo) (maxL := 5) (ret := (some .int)) (by decide) rfl ?_
  intro p e s m args below meth c s₁ B hml hv
  obtain ⟨rfl, hP, hK, hD0, hN, hZ⟩ := hv
  have hx := B.exec
  have hb := B.bytes
  have hr := B.returns
  have hU : ∀ w ∈ wsU, w.before _ s = true := fun w h => atoms_spec (ws := wU yX9_copyTo cX9_copyTo 5 (some .int)) B.pre w (List.mem_cons_of_mem _ h)
  have hown : s.vm.findClass RX9 = some m.cls := findClass_of_methodNamed B.named
  have hlocks := B.notSynchronized
  have hD := pl_in hD0
  have hS : va_S (fun q => q ∈ L) s.heap s.heap [] := va_S.rf
  have hl := lv_entry ([.ref o0, .int p1, .ref o2, .int p3]) (n := 5) (Nat.le_of_ble_eq_true rfl)
  rw [lg_entry_eq]
  generalize (lg_sl ([.ref o0, .int p1, .ref o2, .int p3]) ++ List.replicate (5 - (lg_sl ([.ref o0, .int p1, .ref o2, .int p3])).length) Slot.unset).toArray = ls at hl ⊢
  have hl : lv_has ls 5 [(0, .ref o0), (1, .int p1), (2, .ref o2), (3, .int p3)] := hl
  have bp1 : ((-2147483648) ≤ p1.toInt ∧ p1.toInt ≤ 2147483647) := ⟨i32_lo _, i32_hi _⟩
  have hfr0 : ∀ b, kd b ≠ 505 → f b = f b := fun _ _ => rfl
  refine lv_aload_n hx hb dX9_copyTo_0 rfl (lv_at hl 0 rfl) ?_
  refine lv_iload_n hx hb dX9_copyTo_1 rfl (lv_at hl 1 rfl) ?_
  obtain ⟨a_2, a_3, v_4, hfo_1, ⟨ma_2, ka_2⟩, ⟨ma_3, ka_3⟩, bv_4⟩ := un_13 (hG _ mo0) ko0
  refine tk_ViP (As := [.int p1]) (rest := []) (n := 1) hx hb hml hown hU hN hZ (s_X9_lengthOf_k13 l (dC, dI) cI cL cZ cR cG cH Z kd L f hG o0 mo0 ko0 p1) wd_1010 wd_1011 wd_1012 wd_85 wd_1013 (by decide +kernel) ⟨Nat.le_of_ble_eq_true rfl, Nat.le_of_ble_eq_true rfl⟩ hK hP hD hS mo0 hfo_1 9 rfl rfl rfl hl.1 rfl (Nat.le_of_ble_eq_true rfl) dX9_copyTo_2 ⟨Nat.le_of_ble_eq_true rfl, Nat.le_of_ble_eq_true rfl⟩ (fun x_5 f_6 H locs hw hP hD hS => ?_)
  obtain ⟨rfl, bx_5, relx_5⟩ := hw
  refine lv_istore (lv' := [(4, .int x_5), (0, .ref o0), (1, .int p1), (2, .ref o2), (3, .int p3)]) hx hb dX9_copyTo_5 hl (by decide) rfl (fun ls hl => ?_)
  refine lv_iload hx hb dX9_copyTo_7 (lv_at hl 0 rfl) ?_
  refine lv_iconst (v := 1) hx hb dX9_copyTo_9 (by decide) ?_
  refine lv_icmp_lt (tgt := 26) hx hb dX9_copyTo_10 (by decide) (fun c_8 => ?_) (fun c_8 => ?_)
  · skip
    rw [Int32.lt_iff_toInt_lt, ti_1] at c_8
    refine lv_iload_n hx hb dX9_copyTo_26 rfl (lv_at hl 4 rfl) ?_
    exact W.iret (v := p3) hx hb hr (fun t ht hW => ⟨⟨p3, f, rfl, ⟨hG, (by constructor <;> omega), hfr0⟩, by rw [ht]; exact hP, va_K.moved hW.alike hK, pl_in hD⟩, hS.F ht⟩) hS.2.2 dX9_copyTo_27
  · skip
    rw [Int32.lt_iff_toInt_lt, ti_1] at c_8
    refine lv_iload_n hx hb dX9_copyTo_13 rfl (lv_at hl 4 rfl) ?_
    refine lv_if_lt (tgt := 26) hx hb dX9_copyTo_14 (by decide) (fun c_9 => ?_) (fun c_9 => ?_)
    · skip
      rw [Int32.lt_iff_toInt_lt, ti_0] at c_9
      exfalso
      omega
    · skip
      rw [Int32.lt_iff_toInt_lt, ti_0] at c_9
      refine lv_iload_n hx hb dX9_copyTo_17 rfl (lv_at hl 4 rfl) ?_
      refine lv_iload hx hb dX9_copyTo_18 (lv_at hl 0 rfl) ?_
      refine lv_iadd hx hb dX9_copyTo_20 ?_
      refine lv_topi (fun x_10 ex_10 => ?_)
      have hx_10 : x_10.toInt = p3.toInt + x_5.toInt := by rw [ex_10, ad_I (by omega) (by omega)]
      have bx_10 : (1 ≤ x_10.toInt ∧ x_10.toInt ≤ 20) := by constructor <;> omega
      refine lv_aload_n hx hb dX9_copyTo_21 rfl (lv_at hl 3 rfl) ?_
      obtain ⟨g_12, hfo_11, hbg_12⟩ := un_505 (hG _ mo2) ko2
      refine tk_alenP (v := 12) hx hb hK hP 0 mo2 hfo_11 rfl rfl dX9_copyTo_22 ?_
      refine lv_icmp_le (tgt := 28) hx hb dX9_copyTo_23 (by decide) (fun c_13 => ?_) (fun c_13 => ?_)
      · skip
        rw [Int32.le_iff_toInt_le, ti_12] at c_13
        refine lv_aload_n hx hb dX9_copyTo_28 rfl (lv_at hl 1 rfl) ?_
        refine tk_getP (D := (dC, dI)) (ci := 9) (v := .ref a_2) (C := RX9) (T := TX9) (N := 3) hx hb hU inlX9 hown hK hP mo0 hfo_1 rfl 0 (by decide) (hU _ wd_95) (fun _ h9 => h9) rfl dX9_copyTo_29 ?_
        refine lv_iload_n hx hb dX9_copyTo_32 rfl (lv_at hl 2 rfl) ?_
        refine lv_bipush (v := 8) hx hb dX9_copyTo_33 (by decide) ?_
        refine lv_imul hx hb dX9_copyTo_35 ?_
        refine lv_topi (fun x_14 ex_14 => ?_)
        have hx_14 : x_14.toInt = p1.toInt * 8 := by rw [ex_14, ml_I (by rw [ti_8]; omega) (by rw [ti_8]; omega), ti_8]
        have bx_14 : (0 ≤ x_14.toInt ∧ x_14.toInt ≤ 56) := by constructor <;> omega
        refine lv_aload_n hx hb dX9_copyTo_36 rfl (lv_at hl 3 rfl) ?_
        refine lv_iload_n hx hb dX9_copyTo_37 rfl (lv_at hl 4 rfl) ?_
        refine lv_iload hx hb dX9_copyTo_38 (lv_at hl 0 rfl) ?_
        obtain ⟨g_16, hfo_15, hbg_16⟩ := un_506 (hG _ ma_2) ka_2
        refine tk_copyP hx hb (by rw [hml]; exact hl.1.symm) hown (hU _ wd_548) (hU _ wd_253) (hU _ wd_254) (hU _ wd_255) hK hP hD hS 0 ma_2 mo2 hfo_15 hfo_11 rfl (by rw [Int32.lt_iff_toInt_lt, ti_0]; omega) (by rw [Int32.lt_iff_toInt_lt, ti_0]; omega) (by rw [Int32.lt_iff_toInt_lt, ti_0]; omega) (cp_ok (by omega) (by omega) (by omega)) (cp_ok (by omega) (by omega) (by omega)) (Nat.le_of_ble_eq_true rfl) (Nat.le_of_ble_eq_true rfl) dX9_copyTo_40 (fun H locs hP hD hS => ?_)
        obtain ⟨f_18, ef_18⟩ : ∃ y : Nat → va_E, y = va_up f o2 (.inl (cI, 12, .inl (va_cpy g_16 g_12 (Int32.toNatClampNeg x_14) (Int32.toNatClampNeg p3) (Int32.toNatClampNeg x_5)))) := ⟨_, rfl⟩
        have hP : va_P (dC, dI) vwCl (va_pl L f_18) H := by rw [ef_18]; exact hP
        have hD : va_D (fun q => q ∈ L) (va_pl L f_18) := by rw [ef_18]; exact hD
        have hG : GI (okc cI cL cZ cR cG cH L kd) kd L f_18 := by rw [ef_18]; exact hG.set o2 (mk_505 ko2 ⟨_, rfl, okI_cpy (fun j => by have := hbg_16 j; constructor <;> omega) hbg_12 _ _ _⟩)
        have hfo_19 : f_18 o0 = .inr (9, [.ref a_2, .ref a_3, .int v_4]) := by rw [ef_18, up_ne (kd_ne ko2 ko0 (by decide))]; exact hfo_1
        have hfo_20 : f_18 a_2 = .inl (cI, 64, .inl g_16) := by rw [ef_18, up_ne (kd_ne ko2 ka_2 (by decide))]; exact hfo_15
        have hfr0 : ∀ b, kd b ≠ 505 → f_18 b = f b := fun b q505 => (congrFun ef_18 b).trans ((up_ne (fun e9 => q505 (by rw [e9]; exact ko2))).trans (hfr0 b q505))
        have hfo_21 : f_18 o2 = .inl (cI, 12, .inl (va_cpy g_16 g_12 (Int32.toNatClampNeg x_14) (Int32.toNatClampNeg p3) (Int32.toNatClampNeg x_5))) := by rw [ef_18]; exact up_self
        refine lv_iload_n hx hb dX9_copyTo_43 rfl (lv_at hl 4 rfl) ?_
        refine lv_iload hx hb dX9_copyTo_44 (lv_at hl 0 rfl) ?_
        refine lv_iadd hx hb dX9_copyTo_46 ?_
        refine lv_topi (fun x_22 ex_22 => ?_)
        have hx_22 : x_22.toInt = p3.toInt + x_5.toInt := by rw [ex_22, ad_I (by omega) (by omega)]
        have bx_22 : (1 ≤ x_22.toInt ∧ x_22.toInt ≤ 20) := by constructor <;> omega
        have hclc_23 : (0 ≤ x_22.toInt ∧ x_22.toInt ≤ 12) := by constructor <;> omega
        exact W.iret (v := x_22) hx hb hr (fun t ht hW => ⟨⟨x_22, f_18, rfl, ⟨hG, (by constructor <;> omega), hfr0⟩, by rw [ht]; exact hP, va_K.moved hW.alike hK, pl_in hD⟩, hS.F ht⟩) hS.2.2 dX9_copyTo_47
      · skip
        rw [Int32.le_iff_toInt_le, ti_12] at c_13
        refine lv_iload_n hx hb dX9_copyTo_26 rfl (lv_at hl 4 rfl) ?_
        exact W.iret (v := p3) hx hb hr (fun t ht hW => ⟨⟨p3, f, rfl, ⟨hG, (by constructor <;> omega), hfr0⟩, by rw [ht]; exact hP, va_K.moved hW.alike hK, pl_in hD⟩, hS.F ht⟩) hS.2.2 dX9_copyTo_27
set_option maxHeartbeats 8000000 in
set_option maxRecDepth 100000 in
theorem s_X6_study_k6_k3 (l : Launch) (D : va_G) (cI cL cZ cR cG cH : ClassId) (Z : zT) (kd : Nat → Nat) (L : List Nat) (f : Nat → va_E) (hG : GI (okc cI cL cZ cR cG cH L kd) kd L f) (o0 : Nat) (mo0 : o0 ∈ L) (ko0 : kd o0 = 6) (o1 : Nat) (mo1 : o1 ∈ L) (ko1 : kd o1 = 3) (p2 : Int32) (bp2 : (0 ≤ p2.toInt ∧ p2.toInt ≤ 8)) : mPV l D cI cL cZ cR cG cH Z yX6_study cX6_study 7 none 5 128 [.ref o0, .ref o1, .int p2] L f (fun (f9 : Nat → va_E) => GI (okc cI cL cZ cR cG cH L kd) kd L f9 ∧ (∀ b, kd b ≠ 3 → kd b ≠ 507 → kd b ≠ 525 → kd b ≠ 527 → kd b ≠ 531 → kd b ≠ 532 → f9 b = f b) ∧ (∀ b, kd b = 3 → fldR (f9 b) 0 = fldR (f b) 0) ∧ (∀ b, kd b = 3 → fldR (f9 b) 3 = fldR (f b) 3)) := by
  obtain ⟨dC, dI⟩ := D
  refine Met.ofW (cc := cX6_study) (maxL := 7) (ret := none) (by decide) rfl ?_
  intro p e s m args below meth c s₁ B hml hv
  obtain ⟨rfl, hP, hK, hD0, hN, hZ⟩ := hv
  have hx := B.exec
  have hb := B.bytes
  have hr := B.returns
  have hU : ∀ w ∈ wsU, w.before _ s = true := fun w h => atoms_spec (ws := wU yX6_study cX6_study 7 none) B.pre w (List.mem_cons_of_mem _ h)
  have hown : s.vm.findClass RX6 = some m.cls := findClass_of_methodNamed B.named
  have hlocks := B.notSynchronized
  have hD := pl_in hD0
  have hS : va_S (fun q => q ∈ L) s.heap s.heap [] := va_S.rf
  have hl := lv_entry ([.ref o0, .ref o1, .int p2]) (n := 7) (Nat.le_of_ble_eq_true rfl)
  rw [lg_entry_eq]
  generalize (lg_sl ([.ref o0, .ref o1, .int p2]) ++ List.replicate (7 - (lg_sl ([.ref o0, .ref o1, .int p2])).length) Slot.unset).toArray = ls at hl ⊢
  have hl : lv_has ls 7 [(0, .ref o0), (1, .ref o1), (2, .int p2)] := hl
  have hfr0 : ∀ b, kd b ≠ 3 → kd b ≠ 507 → kd b ≠ 525 → kd b ≠ 527 → kd b ≠ 531 → kd b ≠ 532 → f b = f b := fun _ _ _ _ _ _ _ => rfl
  have hrr3_0 : ∀ b, kd b = 3 → fldR (f b) 0 = fldR (f b) 0 := fun _ _ => rfl
  have hrr3_3 : ∀ b, kd b = 3 → fldR (f b) 3 = fldR (f b) 3 := fun _ _ => rfl
  refine lv_iconst (v := 1) hx hb dX6_study_0 (by decide) ?_
  refine lv_iload_n hx hb dX6_study_1 rfl (lv_at hl 2 rfl) ?_
  refine lv_ishl hx hb dX6_study_2 ?_
  refine lv_topi (fun x_1 ex_1 => ?_)
  have bx_1 : (1 ≤ x_1.toInt ∧ x_1.toInt ≤ 256) := by rw [ex_1]; exact sh_8 (by constructor <;> omega)
  refine lv_iconst (v := 1) hx hb dX6_study_3 (by decide) ?_
  refine lv_isub hx hb dX6_study_4 ?_
  refine lv_topi (fun x_2 ex_2 => ?_)
  have hx_2 : x_2.toInt = x_1.toInt - 1 := by rw [ex_2, sb_I (by rw [ti_1]; omega) (by rw [ti_1]; omega), ti_1]
  have bx_2 : (0 ≤ x_2.toInt ∧ x_2.toInt ≤ 255) := by constructor <;> omega
  refine lv_istore_n (lv' := [(3, .int x_2), (0, .ref o0), (1, .ref o1), (2, .int p2)]) hx hb dX6_study_5 rfl hl (by decide) rfl (fun ls hl => ?_)
  refine lv_iconst (v := 0) hx hb dX6_study_6 (by decide) ?_
  refine lv_istore (lv' := [(4, .int 0), (3, .int x_2), (0, .ref o0), (1, .ref o1), (2, .int p2)]) hx hb dX6_study_7 hl (by decide) rfl (fun ls hl => ?_)
  have hloop_15 : ∀ (n : Nat), ∀ (y_16 : Int32), (0 ≤ y_16.toInt ∧ y_16.toInt ≤ 12) → ∀ (f_18 : Nat → va_E), GI (okc cI cL cZ cR cG cH L kd) kd L f_18 → ∀ (H : Heap) (locs : List Loc), va_P (dC, dI) vwCl (va_pl L f_18) H → va_S (fun q => q ∈ L) s.heap H locs → va_D (fun q => q ∈ L) (va_pl L f_18) → (∀ b, kd b ≠ 3 → kd b ≠ 507 → kd b ≠ 525 → kd b ≠ 527 → kd b ≠ 531 → kd b ≠ 532 → f_18 b = f b) → (∀ b, kd b = 3 → fldR (f_18 b) 0 = fldR (f b) 0) → (∀ b, kd b = 3 → fldR (f_18 b) 3 = fldR (f b) 3) → 12 - y_16.toInt < (n : Int) → ∀ (ls : Array Slot), lv_has ls 7 [(4, .int y_16), (3, .int x_2), (0, .ref o0), (1, .ref o1), (2, .int p2)] → W p l e (headSpec (wU yX6_study cX6_study 7 none) { frames := 5, cells := 0, slots := 0, locals := 128 }).room s m [.ref o0, .ref o1, .int p2].toArray below meth c H locs 0 0 (MQ below (va_Qv (fun (f9 : Nat → va_E) => GI (okc cI cL cZ cR cG cH L kd) kd L f9 ∧ (∀ b, kd b ≠ 3 → kd b ≠ 507 → kd b ≠ 525 → kd b ≠ 527 → kd b ≠ 531 → kd b ≠ 532 → f9 b = f b) ∧ (∀ b, kd b = 3 → fldR (f9 b) 0 = fldR (f b) 0) ∧ (∀ b, kd b = 3 → fldR (f9 b) 3 = fldR (f b) 3)) (qP (dC, dI) cI cL cZ cR cG cH L) (fun q => q ∈ L)) [.ref o0, .ref o1, .int p2].toArray s 0 0 (fun q => q ∈ L)) (F0 m 9 ls []) := by
    intro n
    induction n with
    | zero => intro y_16 by_16 f_18 hG H locs hP hS hD hfr0 hrr3_0 hrr3_3 hmuhloop_15 ls hl; exfalso; omega
    | succ n ih_hloop_15 =>
      intro y_16 by_16 f_18 hG H locs hP hS hD hfr0 hrr3_0 hrr3_3 hmuhloop_15 ls hl
      refine lv_iload hx hb dX6_study_9 (lv_at hl 0 rfl) ?_
      refine lv_aload_n hx hb dX6_study_11 rfl (lv_at hl 2 rfl) ?_
      obtain ⟨v_20, v_21, a_22, a_23, a_24, v_25, a_26, a_27, a_28, hfo_19, bv_21, ⟨ma_22, ka_22⟩, ⟨ma_23, ka_23⟩, ⟨ma_24, ka_24⟩, ⟨ma_26, ka_26⟩, ⟨ma_27, ka_27⟩, ⟨ma_28, ka_28⟩⟩ := un_6 (hG _ mo0) ko0
      have bv_20 : ((-2147483648) ≤ v_20.toInt ∧ v_20.toInt ≤ 2147483647) := ⟨i32_lo _, i32_hi _⟩
      have bv_25 : ((-2147483648) ≤ v_25.toInt ∧ v_25.toInt ≤ 2147483647) := ⟨i32_lo _, i32_hi _⟩
      refine tk_getP (D := (dC, dI)) (ci := 6) (v := .ref a_23) (C := RX6) (T := TX6) (N := 9) hx hb hU inlX6 hown hK hP mo0 hfo_19 rfl 3 (by decide) (hU _ wd_139) (fun _ h9 => h9) rfl dX6_study_12 ?_
      obtain ⟨a_30, a_31, v_32, hfo_29, ⟨ma_30, ka_30⟩, ⟨ma_31, ka_31⟩, bv_32⟩ := un_9 (hG _ ma_23) ka_23
      refine tk_getP (D := (dC, dI)) (ci := 9) (v := .int v_32) (C := RX9) (T := TX9) (N := 3) hx hb hU inlX9 hown hK hP ma_23 hfo_29 rfl 2 (by decide) (hU _ wd_1397) (fun _ h9 => h9) rfl dX6_study_15 ?_
      refine lv_icmp_ge (tgt := 128) hx hb dX6_study_18 (by decide) (fun c_33 => ?_) (fun c_33 => ?_)
      · skip
        rw [Int32.le_iff_toInt_le] at c_33
        exact W.vret hx hb hr (fun t ht hW => ⟨⟨f_18, rfl, ⟨hG, hfr0, hrr3_0, hrr3_3⟩, by rw [ht]; exact hP, va_K.moved hW.alike hK, pl_in hD⟩, hS.F ht⟩) hS.2.2 dX6_study_128
      · skip
        rw [Int32.le_iff_toInt_le] at c_33
        refine lv_aload_n hx hb dX6_study_21 rfl (lv_at hl 3 rfl) ?_
        refine lv_aload_n hx hb dX6_study_22 rfl (lv_at hl 2 rfl) ?_
        refine tk_getP (D := (dC, dI)) (ci := 6) (v := .ref a_28) (C := RX6) (T := TX6) (N := 9) hx hb hU inlX6 hown hK hP mo0 hfo_19 rfl 8 (by decide) (hU _ wd_143) (fun _ h9 => h9) rfl dX6_study_23 ?_
        refine lv_aload_n hx hb dX6_study_26 rfl (lv_at hl 2 rfl) ?_
        refine tk_getP (D := (dC, dI)) (ci := 6) (v := .ref a_24) (C := RX6) (T := TX6) (N := 9) hx hb hU inlX6 hown hK hP mo0 hfo_19 rfl 4 (by decide) (hU _ wd_140) (fun _ h9 => h9) rfl dX6_study_27 ?_
        refine lv_iload hx hb dX6_study_30 (lv_at hl 0 rfl) ?_
        refine lv_aload_n hx hb dX6_study_32 rfl (lv_at hl 2 rfl) ?_
        refine tk_getP (D := (dC, dI)) (ci := 6) (v := .ref a_28) (C := RX6) (T := TX6) (N := 9) hx hb hU inlX6 hown hK hP mo0 hfo_19 rfl 8 (by decide) (hU _ wd_143) (fun _ h9 => h9) rfl dX6_study_33 ?_
        refine lv_iconst (v := 0) hx hb dX6_study_36 (by decide) ?_
        obtain ⟨a_35, a_36, v_37, hfo_34, ⟨ma_35, ka_35⟩, ⟨ma_36, ka_36⟩, bv_37⟩ := un_9 (hG _ ma_24) ka_24
        refine tk_ViP (As := [.int y_16, .ref a_28, .int 0]) (rest := [.ref a_28, .ref o1]) (n := 3) hx hb hml hown hU hN hZ (s_X9_copyTo_k9_a507_n l (dC, dI) cI cL cZ cR cG cH Z kd L f_18 hG a_24 ma_24 ka_24 y_16 a_28 ma_28 ka_28 0 (by decide)) wd_1413 wd_1007 wd_1008 wd_85 wd_1009 (by decide +kernel) ⟨Nat.le_of_ble_eq_true rfl, Nat.le_of_ble_eq_true rfl⟩ hK hP hD hS ma_24 hfo_34 9 rfl rfl rfl hl.1 rfl (Nat.le_of_ble_eq_true rfl) dX6_study_37 ⟨Nat.le_of_ble_eq_true rfl, Nat.le_of_ble_eq_true rfl⟩ (fun x_38 f_39 H locs hw hP hD hS => ?_)
        obtain ⟨hG, bx_38, hkc_40⟩ := hw
        have hfo_42 : f_39 o0 = .inr (6, [.int v_20, .int v_21, .ref a_22, .ref a_23, .ref a_24, .int v_25, .ref a_26, .ref a_27, .ref a_28]) := by rw [hkc_40 o0 (by rw [ko0]; decide)]; exact hfo_19
        have hfo_43 : f_39 a_23 = .inr (9, [.ref a_30, .ref a_31, .int v_32]) := by rw [hkc_40 a_23 (by rw [ka_23]; decide)]; exact hfo_29
        have hfo_44 : f_39 a_24 = .inr (9, [.ref a_35, .ref a_36, .int v_37]) := by rw [hkc_40 a_24 (by rw [ka_24]; decide)]; exact hfo_34
        have hfr0 : ∀ b, kd b ≠ 3 → kd b ≠ 507 → kd b ≠ 525 → kd b ≠ 527 → kd b ≠ 531 → kd b ≠ 532 → f_39 b = f b := fun b q3 q507 q525 q527 q531 q532 => (hkc_40 b q507).trans (hfr0 b q3 q507 q525 q527 q531 q532)
        have hrr3_0 : ∀ b, kd b = 3 → fldR (f_39 b) 0 = fldR (f b) 0 := fun b kb => (congrArg (fun x => fldR x 0) (hkc_40 b (by rw [kb]; decide))).trans (hrr3_0 b kb)
        have hrr3_3 : ∀ b, kd b = 3 → fldR (f_39 b) 3 = fldR (f b) 3 := fun b kb => (congrArg (fun x => fldR x 3) (hkc_40 b (by rw [kb]; decide))).trans (hrr3_3 b kb)
        obtain ⟨a_46, a_47, a_48, a_49, a_50, v_51, v_52, v_53, v_54, v_55, v_56, v_57, a_58, a_59, a_60, v_61, a_62, a_63, hfo_45, ⟨ma_46, ka_46⟩, ⟨ma_47, ka_47⟩, ⟨ma_48, ka_48⟩, ⟨ma_49, ka_49⟩, ⟨ma_50, ka_50⟩, bv_51, bv_52, bv_53, ⟨ma_58, ka_58⟩, ⟨ma_59, ka_59⟩, ⟨ma_60, ka_60⟩, bv_61, ⟨ma_62, ka_62⟩, ⟨ma_63, ka_63⟩⟩ := un_3 (hG _ mo1) ko1
        have bv_54 : ((-2147483648) ≤ v_54.toInt ∧ v_54.toInt ≤ 2147483647) := ⟨i32_lo _, i32_hi _⟩
        have bv_55 : ((-2147483648) ≤ v_55.toInt ∧ v_55.toInt ≤ 2147483647) := ⟨i32_lo _, i32_hi _⟩
        have bv_56 : ((-2147483648) ≤ v_56.toInt ∧ v_56.toInt ≤ 2147483647) := ⟨i32_lo _, i32_hi _⟩
        have bv_57 : ((-2147483648) ≤ v_57.toInt ∧ v_57.toInt ≤ 2147483647) := ⟨i32_lo _, i32_hi _⟩
        refine tk_VvP (As := [.ref a_28, .int x_38]) (rest := []) (n := 2) hx hb hml hown hU hN hZ (s_X3_takeSigns_k3_a507 l (dC, dI) cI cL cZ cR cG cH Z kd L f_39 hG o1 mo1 ko1 a_28 ma_28 ka_28 x_38) wd_1414 wd_719 wd_720 wd_16 wd_721 (by decide +kernel) ⟨Nat.le_of_ble_eq_true rfl, Nat.le_of_ble_eq_true rfl⟩ hK hP hD hS mo1 hfo_45 3 rfl rfl rfl hl.1 rfl (Nat.le_of_ble_eq_true rfl) dX6_study_40 ⟨Nat.le_of_ble_eq_true rfl, Nat.le_of_ble_eq_true rfl⟩ (fun f_65 H locs hw hP hD hS => ?_)
        obtain ⟨hG, hkc_66, hrc_67, hrc_68⟩ := hw
        have hfo_70 : f_65 o0 = .inr (6, [.int v_20, .int v_21, .ref a_22, .ref a_23, .ref a_24, .int v_25, .ref a_26, .ref a_27, .ref a_28]) := by rw [hkc_66 o0 (by rw [ko0]; decide) (by rw [ko0]; decide)]; exact hfo_42
        have hfo_71 : f_65 a_23 = .inr (9, [.ref a_30, .ref a_31, .int v_32]) := by rw [hkc_66 a_23 (by rw [ka_23]; decide) (by rw [ka_23]; decide)]; exact hfo_43
        have hfo_72 : f_65 a_24 = .inr (9, [.ref a_35, .ref a_36, .int v_37]) := by rw [hkc_66 a_24 (by rw [ka_24]; decide) (by rw [ka_24]; decide)]; exact hfo_44
        have hfr0 : ∀ b, kd b ≠ 3 → kd b ≠ 507 → kd b ≠ 525 → kd b ≠ 527 → kd b ≠ 531 → kd b ≠ 532 → f_65 b = f b := fun b q3 q507 q525 q527 q531 q532 => (hkc_66 b q3 q507).trans (hfr0 b q3 q507 q525 q527 q531 q532)
        have hrr3_0 : ∀ b, kd b = 3 → fldR (f_65 b) 0 = fldR (f b) 0 := fun b kb => (hrc_67 b kb).trans (hrr3_0 b kb)
        have hrr3_3 : ∀ b, kd b = 3 → fldR (f_65 b) 3 = fldR (f b) 3 := fun b kb => (hrc_68 b kb).trans (hrr3_3 b kb)
        obtain ⟨a_74, a_75, a_76, a_77, a_78, v_79, v_80, v_81, v_82, v_83, v_84, v_85, a_86, a_87, a_88, v_89, a_90, a_91, hfo_73, ⟨ma_74, ka_74⟩, ⟨ma_75, ka_75⟩, ⟨ma_76, ka_76⟩, ⟨ma_77, ka_77⟩, ⟨ma_78, ka_78⟩, bv_79, bv_80, bv_81, ⟨ma_86, ka_86⟩, ⟨ma_87, ka_87⟩, ⟨ma_88, ka_88⟩, bv_89, ⟨ma_90, ka_90⟩, ⟨ma_91, ka_91⟩⟩ := un_3 (hG _ mo1) ko1
        have bv_82 : ((-2147483648) ≤ v_82.toInt ∧ v_82.toInt ≤ 2147483647) := ⟨i32_lo _, i32_hi _⟩
        have bv_83 : ((-2147483648) ≤ v_83.toInt ∧ v_83.toInt ≤ 2147483647) := ⟨i32_lo _, i32_hi _⟩
        have bv_84 : ((-2147483648) ≤ v_84.toInt ∧ v_84.toInt ≤ 2147483647) := ⟨i32_lo _, i32_hi _⟩
        have bv_85 : ((-2147483648) ≤ v_85.toInt ∧ v_85.toInt ≤ 2147483647) := ⟨i32_lo _, i32_hi _⟩
        obtain rfl : a_46 = a_74 := by have hk9 := hrc_67 o1 ko1; rw [hfo_73, hfo_45] at hk9; exact (Option.some.inj hk9).symm
        obtain rfl : a_49 = a_77 := by have hk9 := hrc_68 o1 ko1; rw [hfo_73, hfo_45] at hk9; exact (Option.some.inj hk9).symm
        refine lv_aload_n hx hb dX6_study_43 rfl (lv_at hl 2 rfl) ?_
        refine tk_getP (D := (dC, dI)) (ci := 6) (v := .ref a_23) (C := RX6) (T := TX6) (N := 9) hx hb hU inlX6 hown hK hP mo0 hfo_70 rfl 3 (by decide) (hU _ wd_139) (fun _ h9 => h9) rfl dX6_study_44 ?_
        refine lv_iload hx hb dX6_study_47 (lv_at hl 0 rfl) ?_
        refine lv_aload_n hx hb dX6_study_49 rfl (lv_at hl 2 rfl) ?_
        refine tk_getP (D := (dC, dI)) (ci := 6) (v := .ref a_28) (C := RX6) (T := TX6) (N := 9) hx hb hU inlX6 hown hK hP mo0 hfo_70 rfl 8 (by decide) (hU _ wd_143) (fun _ h9 => h9) rfl dX6_study_50 ?_
        refine lv_iconst (v := 0) hx hb dX6_study_53 (by decide) ?_
        refine tk_ViP (As := [.int y_16, .ref a_28, .int 0]) (rest := []) (n := 3) hx hb hml hown hU hN hZ (s_X9_copyTo_k9_a507_n l (dC, dI) cI cL cZ cR cG cH Z kd L f_65 hG a_23 ma_23 ka_23 y_16 a_28 ma_28 ka_28 0 (by decide)) wd_1413 wd_1007 wd_1008 wd_85 wd_1009 (by decide +kernel) ⟨Nat.le_of_ble_eq_true rfl, Nat.le_of_ble_eq_true rfl⟩ hK hP hD hS ma_23 hfo_71 9 rfl rfl rfl hl.1 rfl (Nat.le_of_ble_eq_true rfl) dX6_study_54 ⟨Nat.le_of_ble_eq_true rfl, Nat.le_of_ble_eq_true rfl⟩ (fun x_92 f_93 H locs hw hP hD hS => ?_)
        obtain ⟨hG, bx_92, hkc_94⟩ := hw
        have hfo_96 : f_93 o0 = .inr (6, [.int v_20, .int v_21, .ref a_22, .ref a_23, .ref a_24, .int v_25, .ref a_26, .ref a_27, .ref a_28]) := by rw [hkc_94 o0 (by rw [ko0]; decide)]; exact hfo_70
        have hfo_97 : f_93 a_23 = .inr (9, [.ref a_30, .ref a_31, .int v_32]) := by rw [hkc_94 a_23 (by rw [ka_23]; decide)]; exact hfo_71
        have hfo_98 : f_93 a_24 = .inr (9, [.ref a_35, .ref a_36, .int v_37]) := by rw [hkc_94 a_24 (by rw [ka_24]; decide)]; exact hfo_72
        have hfo_99 : f_93 o1 = .inr (3, [.ref a_46, .ref a_75, .ref a_76, .ref a_49, .ref a_78, .int v_79, .int v_80, .int v_81, .int v_82, .int v_83, .int v_84, .int v_85, .ref a_86, .ref a_87, .ref a_88, .int v_89, .ref a_90, .ref a_91]) := by rw [hkc_94 o1 (by rw [ko1]; decide)]; exact hfo_73
        have hfr0 : ∀ b, kd b ≠ 3 → kd b ≠ 507 → kd b ≠ 525 → kd b ≠ 527 → kd b ≠ 531 → kd b ≠ 532 → f_93 b = f b := fun b q3 q507 q525 q527 q531 q532 => (hkc_94 b q507).trans (hfr0 b q3 q507 q525 q527 q531 q532)
        have hrr3_0 : ∀ b, kd b = 3 → fldR (f_93 b) 0 = fldR (f b) 0 := fun b kb => (congrArg (fun x => fldR x 0) (hkc_94 b (by rw [kb]; decide))).trans (hrr3_0 b kb)
        have hrr3_3 : ∀ b, kd b = 3 → fldR (f_93 b) 3 = fldR (f b) 3 := fun b kb => (congrArg (fun x => fldR x 3) (hkc_94 b (by rw [kb]; decide))).trans (hrr3_3 b kb)
        refine lv_istore (lv' := [(5, .int x_92), (4, .int y_16), (3, .int x_2), (0, .ref o0), (1, .ref o1), (2, .int p2)]) hx hb dX6_study_57 hl (by decide) rfl (fun ls hl => ?_)
        refine lv_aload_n hx hb dX6_study_59 rfl (lv_at hl 3 rfl) ?_
        refine tk_getP (D := (dC, dI)) (ci := 6) (v := .ref a_27) (C := RX6) (T := TX6) (N := 9) hx hb hU inlX6 hown hK hP mo0 hfo_96 rfl 7 (by decide) (hU _ wd_142) (fun _ h9 => h9) rfl dX6_study_60 ?_
        refine lv_iload hx hb dX6_study_63 (lv_at hl 1 rfl) ?_
        refine lv_aload_n hx hb dX6_study_65 rfl (lv_at hl 4 rfl) ?_
        refine lv_aload_n hx hb dX6_study_66 rfl (lv_at hl 3 rfl) ?_
        refine tk_getP (D := (dC, dI)) (ci := 6) (v := .ref a_28) (C := RX6) (T := TX6) (N := 9) hx hb hU inlX6 hown hK hP mo0 hfo_96 rfl 8 (by decide) (hU _ wd_143) (fun _ h9 => h9) rfl dX6_study_67 ?_
        refine lv_iload hx hb dX6_study_70 (lv_at hl 0 rfl) ?_
        refine lv_iload_n hx hb dX6_study_72 rfl (lv_at hl 2 rfl) ?_
        refine lv_aload_n hx hb dX6_study_73 rfl (lv_at hl 3 rfl) ?_
        refine tk_getP (D := (dC, dI)) (ci := 6) (v := .int v_21) (C := RX6) (T := TX6) (N := 9) hx hb hU inlX6 hown hK hP mo0 hfo_96 rfl 1 (by decide) (hU _ wd_136) (fun _ h9 => h9) rfl dX6_study_74 ?_
        refine tk_ViP (As := [.ref a_28, .int x_92, .int x_2, .int v_21]) (rest := [.int y_16, .ref a_27]) (n := 4) hx hb hml hown hU hN hZ (s_X3_align_k3_a507 l (dC, dI) cI cL cZ cR cG cH Z kd L f_93 hG o1 mo1 ko1 a_28 ma_28 ka_28 x_92 (by constructor <;> omega) x_2 v_21 (by constructor <;> omega)) wd_1415 wd_1019 wd_1020 wd_16 wd_1021 (by decide +kernel) ⟨Nat.le_of_ble_eq_true rfl, Nat.le_of_ble_eq_true rfl⟩ hK hP hD hS mo1 hfo_99 3 rfl rfl rfl hl.1 rfl (Nat.le_of_ble_eq_true rfl) dX6_study_77 ⟨Nat.le_of_ble_eq_true rfl, Nat.le_of_ble_eq_true rfl⟩ (fun x_100 f_101 H locs hw hP hD hS => ?_)
        obtain ⟨hG, bx_100, hkc_102⟩ := hw
        have hfo_104 : f_101 o0 = .inr (6, [.int v_20, .int v_21, .ref a_22, .ref a_23, .ref a_24, .int v_25, .ref a_26, .ref a_27, .ref a_28]) := by rw [hkc_102 o0 (by rw [ko0]; decide) (by rw [ko0]; decide)]; exact hfo_96
        have hfo_105 : f_101 a_23 = .inr (9, [.ref a_30, .ref a_31, .int v_32]) := by rw [hkc_102 a_23 (by rw [ka_23]; decide) (by rw [ka_23]; decide)]; exact hfo_97
        have hfo_106 : f_101 a_24 = .inr (9, [.ref a_35, .ref a_36, .int v_37]) := by rw [hkc_102 a_24 (by rw [ka_24]; decide) (by rw [ka_24]; decide)]; exact hfo_98
        have hfo_107 : f_101 o1 = .inr (3, [.ref a_46, .ref a_75, .ref a_76, .ref a_49, .ref a_78, .int v_79, .int v_80, .int v_81, .int v_82, .int v_83, .int v_84, .int v_85, .ref a_86, .ref a_87, .ref a_88, .int v_89, .ref a_90, .ref a_91]) := by rw [hkc_102 o1 (by rw [ko1]; decide) (by rw [ko1]; decide)]; exact hfo_99
        have hfr0 : ∀ b, kd b ≠ 3 → kd b ≠ 507 → kd b ≠ 525 → kd b ≠ 527 → kd b ≠ 531 → kd b ≠ 532 → f_101 b = f b := fun b q3 q507 q525 q527 q531 q532 => (hkc_102 b q525 q527).trans (hfr0 b q3 q507 q525 q527 q531 q532)
        have hrr3_0 : ∀ b, kd b = 3 → fldR (f_101 b) 0 = fldR (f b) 0 := fun b kb => (congrArg (fun x => fldR x 0) (hkc_102 b (by rw [kb]; decide) (by rw [kb]; decide))).trans (hrr3_0 b kb)
        have hrr3_3 : ∀ b, kd b = 3 → fldR (f_101 b) 3 = fldR (f b) 3 := fun b kb => (congrArg (fun x => fldR x 3) (hkc_102 b (by rw [kb]; decide) (by rw [kb]; decide))).trans (hrr3_3 b kb)
        obtain ⟨g_109, hfo_108, hbg_109⟩ := un_532 (hG _ ma_27) ka_27
        refine tk_istP hx hb hK hP hD hS 0 ma_27 hfo_108 rfl (vp_in_iff.mpr (by constructor <;> omega)) dX6_study_80 (fun H locs hP hD hS => ?_)
        obtain ⟨f_111, ef_111⟩ : ∃ y : Nat → va_E, y = va_up f_101 a_27 (.inl (cI, 12, .inl (upd g_109 (Int32.toNatClampNeg y_16) x_100))) := ⟨_, rfl⟩
        have hP : va_P (dC, dI) vwCl (va_pl L f_111) H := by rw [ef_111]; exact hP
        have hD : va_D (fun q => q ∈ L) (va_pl L f_111) := by rw [ef_111]; exact hD
        have hG : GI (okc cI cL cZ cR cG cH L kd) kd L f_111 := by rw [ef_111]; exact hG.set a_27 (mk_532 ka_27 ⟨_, rfl, okI_up hbg_109 (by constructor <;> omega) _⟩)
        have hfo_112 : f_111 o0 = .inr (6, [.int v_20, .int v_21, .ref a_22, .ref a_23, .ref a_24, .int v_25, .ref a_26, .ref a_27, .ref a_28]) := by rw [ef_111, up_ne (kd_ne ka_27 ko0 (by decide))]; exact hfo_104
        have hfo_113 : f_111 a_23 = .inr (9, [.ref a_30, .ref a_31, .int v_32]) := by rw [ef_111, up_ne (kd_ne ka_27 ka_23 (by decide))]; exact hfo_105
        have hfo_114 : f_111 a_24 = .inr (9, [.ref a_35, .ref a_36, .int v_37]) := by rw [ef_111, up_ne (kd_ne ka_27 ka_24 (by decide))]; exact hfo_106
        have hfo_115 : f_111 o1 = .inr (3, [.ref a_46, .ref a_75, .ref a_76, .ref a_49, .ref a_78, .int v_79, .int v_80, .int v_81, .int v_82, .int v_83, .int v_84, .int v_85, .ref a_86, .ref a_87, .ref a_88, .int v_89, .ref a_90, .ref a_91]) := by rw [ef_111, up_ne (kd_ne ka_27 ko1 (by decide))]; exact hfo_107
        have hfr0 : ∀ b, kd b ≠ 3 → kd b ≠ 507 → kd b ≠ 525 → kd b ≠ 527 → kd b ≠ 531 → kd b ≠ 532 → f_111 b = f b := fun b q3 q507 q525 q527 q531 q532 => (congrFun ef_111 b).trans ((up_ne (fun e9 => q532 (by rw [e9]; exact ka_27))).trans (hfr0 b q3 q507 q525 q527 q531 q532))
        have hrr3_0 : ∀ b, kd b = 3 → fldR (f_111 b) 0 = fldR (f b) 0 := fun b kb => (congrArg (fun x => fldR x 0) ((congrFun ef_111 b).trans (up_ne (kd_ne ka_27 kb (by decide))))).trans (hrr3_0 b kb)
        have hrr3_3 : ∀ b, kd b = 3 → fldR (f_111 b) 3 = fldR (f b) 3 := fun b kb => (congrArg (fun x => fldR x 3) ((congrFun ef_111 b).trans (up_ne (kd_ne ka_27 kb (by decide))))).trans (hrr3_3 b kb)
        have hfo_116 : f_111 a_27 = .inl (cI, 12, .inl (upd g_109 (Int32.toNatClampNeg y_16) x_100)) := by rw [ef_111]; exact up_self
        refine lv_iconst (v := 0) hx hb dX6_study_81 (by decide) ?_
        refine lv_istore (lv' := [(6, .int 0), (5, .int x_92), (4, .int y_16), (3, .int x_2), (0, .ref o0), (1, .ref o1), (2, .int p2)]) hx hb dX6_study_82 hl (by decide) rfl (fun ls hl => ?_)
        have hloop_141 : ∀ (n : Nat), ∀ (y_142 : Int32), (0 ≤ y_142.toInt ∧ y_142.toInt ≤ 9) → ∀ (f_144 : Nat → va_E), GI (okc cI cL cZ cR cG cH L kd) kd L f_144 → ∀ (H : Heap) (locs : List Loc), va_P (dC, dI) vwCl (va_pl L f_144) H → va_S (fun q => q ∈ L) s.heap H locs → va_D (fun q => q ∈ L) (va_pl L f_144) → (∀ b, kd b ≠ 3 → kd b ≠ 507 → kd b ≠ 525 → kd b ≠ 527 → kd b ≠ 531 → kd b ≠ 532 → f_144 b = f b) → (∀ b, kd b = 3 → fldR (f_144 b) 0 = fldR (f b) 0) → (∀ b, kd b = 3 → fldR (f_144 b) 3 = fldR (f b) 3) → (f_144 o0 = .inr (6, [.int v_20, .int v_21, .ref a_22, .ref a_23, .ref a_24, .int v_25, .ref a_26, .ref a_27, .ref a_28])) → (f_144 a_23 = .inr (9, [.ref a_30, .ref a_31, .int v_32])) → (f_144 a_24 = .inr (9, [.ref a_35, .ref a_36, .int v_37])) → (f_144 o1 = .inr (3, [.ref a_46, .ref a_75, .ref a_76, .ref a_49, .ref a_78, .int v_79, .int v_80, .int v_81, .int v_82, .int v_83, .int v_84, .int v_85, .ref a_86, .ref a_87, .ref a_88, .int v_89, .ref a_90, .ref a_91])) → 9 - y_142.toInt < (n : Int) → ∀ (ls : Array Slot), lv_has ls 7 [(6, .int y_142), (5, .int x_92), (4, .int y_16), (3, .int x_2), (0, .ref o0), (1, .ref o1), (2, .int p2)] → W p l e (headSpec (wU yX6_study cX6_study 7 none) { frames := 5, cells := 0, slots := 0, locals := 128 }).room s m [.ref o0, .ref o1, .int p2].toArray below meth c H locs 0 0 (MQ below (va_Qv (fun (f9 : Nat → va_E) => GI (okc cI cL cZ cR cG cH L kd) kd L f9 ∧ (∀ b, kd b ≠ 3 → kd b ≠ 507 → kd b ≠ 525 → kd b ≠ 527 → kd b ≠ 531 → kd b ≠ 532 → f9 b = f b) ∧ (∀ b, kd b = 3 → fldR (f9 b) 0 = fldR (f b) 0) ∧ (∀ b, kd b = 3 → fldR (f9 b) 3 = fldR (f b) 3)) (qP (dC, dI) cI cL cZ cR cG cH L) (fun q => q ∈ L)) [.ref o0, .ref o1, .int p2].toArray s 0 0 (fun q => q ∈ L)) (F0 m 84 ls []) := by
          intro n
          induction n with
          | zero => intro y_142 by_142 f_144 hG H locs hP hS hD hfr0 hrr3_0 hrr3_3 hfo_145 hfo_146 hfo_147 hfo_148 hmuhloop_141 ls hl; exfalso; omega
          | succ n ih_hloop_141 =>
            intro y_142 by_142 f_144 hG H locs hP hS hD hfr0 hrr3_0 hrr3_3 hfo_145 hfo_146 hfo_147 hfo_148 hmuhloop_141 ls hl
            refine lv_iload hx hb dX6_study_84 (lv_at hl 0 rfl) ?_
            refine lv_aload_n hx hb dX6_study_86 rfl (lv_at hl 4 rfl) ?_
            refine tk_getP (D := (dC, dI)) (ci := 6) (v := .ref a_27) (C := RX6) (T := TX6) (N := 9) hx hb hU inlX6 hown hK hP mo0 hfo_145 rfl 7 (by decide) (hU _ wd_142) (fun _ h9 => h9) rfl dX6_study_87 ?_
            refine lv_iload hx hb dX6_study_90 (lv_at hl 2 rfl) ?_
            obtain ⟨g_150, hfo_149, hbg_150⟩ := un_532 (hG _ ma_27) ka_27
            refine tk_ildP hx hb hK hP 0 ma_27 hfo_149 rfl (vp_in_iff.mpr (by constructor <;> omega)) dX6_study_92 ?_
            refine lv_topi (fun x_151 ex_151 => ?_)
            have bx_151 : (0 ≤ x_151.toInt ∧ x_151.toInt ≤ 9) := by rw [ex_151]; exact hbg_150 _
            refine lv_icmp_ge (tgt := 122) hx hb dX6_study_93 (by decide) (fun c_152 => ?_) (fun c_152 => ?_)
            · skip
              rw [Int32.le_iff_toInt_le] at c_152
              obtain ⟨x_153, ex_153⟩ : ∃ y : Int32, y_16 + 1 = y := ⟨_, rfl⟩
              have hx_153 : x_153.toInt = y_16.toInt + 1 := by rw [← ex_153, ad_I (by rw [ti_1]; omega) (by rw [ti_1]; omega), ti_1]
              have bx_153 : (1 ≤ x_153.toInt ∧ x_153.toInt ≤ 12) := by constructor <;> omega
              refine lv_iinc (v := x_153) (lv' := [(4, .int x_153), (6, .int y_142), (5, .int x_92), (3, .int x_2), (0, .ref o0), (1, .ref o1), (2, .int p2)]) hx hb dX6_study_122 hl (k := 2) rfl ex_153 (by decide) rfl (fun ls hl => ?_)
              refine lv_goto (tgt := 9) hx hb dX6_study_125 (by decide) ?_
              exact ih_hloop_15 x_153 (by constructor <;> omega) f_144 hG _ _ hP hS hD hfr0 hrr3_0 hrr3_3 (by omega) ls (lv_sub hl [0, 3, 4, 5, 6] rfl)
            · skip
              rw [Int32.le_iff_toInt_le] at c_152
              refine lv_aload_n hx hb dX6_study_96 rfl (lv_at hl 4 rfl) ?_
              refine tk_getP (D := (dC, dI)) (ci := 6) (v := .ref a_26) (C := RX6) (T := TX6) (N := 9) hx hb hU inlX6 hown hK hP mo0 hfo_145 rfl 6 (by decide) (hU _ wd_141) (fun _ h9 => h9) rfl dX6_study_97 ?_
              refine lv_iload hx hb dX6_study_100 (lv_at hl 2 rfl) ?_
              refine lv_bipush (v := 9) hx hb dX6_study_102 (by decide) ?_
              refine lv_imul hx hb dX6_study_104 ?_
              refine lv_topi (fun x_154 ex_154 => ?_)
              have hx_154 : x_154.toInt = y_16.toInt * 9 := by rw [ex_154, ml_I (by rw [ti_9]; omega) (by rw [ti_9]; omega), ti_9]
              have bx_154 : (0 ≤ x_154.toInt ∧ x_154.toInt ≤ 99) := by constructor <;> omega
              refine lv_iload hx hb dX6_study_105 (lv_at hl 0 rfl) ?_
              refine lv_iadd hx hb dX6_study_107 ?_
              refine lv_topi (fun x_155 ex_155 => ?_)
              have hx_155 : x_155.toInt = x_154.toInt + y_142.toInt := by rw [ex_155, ad_I (by omega) (by omega)]
              have bx_155 : (0 ≤ x_155.toInt ∧ x_155.toInt ≤ 107) := by constructor <;> omega
              refine lv_aload_n hx hb dX6_study_108 rfl (lv_at hl 5 rfl) ?_
              refine tk_getP (D := (dC, dI)) (ci := 3) (v := .ref a_88) (C := RX3) (T := TX3) (N := 18) hx hb hU inlX3 hown hK hP mo1 hfo_148 rfl 14 (by decide) (hU _ wd_1412) (fun _ h9 => h9) rfl dX6_study_109 ?_
              refine lv_iload hx hb dX6_study_112 (lv_at hl 0 rfl) ?_
              obtain ⟨g_157, hfo_156, hbg_157⟩ := un_527 (hG _ ma_88) ka_88
              refine tk_ildP hx hb hK hP 0 ma_88 hfo_156 rfl (vp_in_iff.mpr (by constructor <;> omega)) dX6_study_114 ?_
              refine lv_topi (fun x_158 ex_158 => ?_)
              have bx_158 : (0 ≤ x_158.toInt ∧ x_158.toInt ≤ 255) := by rw [ex_158]; exact hbg_157 _
              obtain ⟨g_160, hfo_159, hbg_160⟩ := un_531 (hG _ ma_26) ka_26
              refine tk_istP hx hb hK hP hD hS 0 ma_26 hfo_159 rfl (vp_in_iff.mpr (by constructor <;> omega)) dX6_study_115 (fun H locs hP hD hS => ?_)
              obtain ⟨f_162, ef_162⟩ : ∃ y : Nat → va_E, y = va_up f_144 a_26 (.inl (cI, 108, .inl (upd g_160 (Int32.toNatClampNeg x_155) x_158))) := ⟨_, rfl⟩
              have hP : va_P (dC, dI) vwCl (va_pl L f_162) H := by rw [ef_162]; exact hP
              have hD : va_D (fun q => q ∈ L) (va_pl L f_162) := by rw [ef_162]; exact hD
              have hG : GI (okc cI cL cZ cR cG cH L kd) kd L f_162 := by rw [ef_162]; exact hG.set a_26 (mk_531 ka_26 ⟨_, rfl, okI_up hbg_160 ⟨i32_lo _, i32_hi _⟩ _⟩)
              have hfo_163 : f_162 o0 = .inr (6, [.int v_20, .int v_21, .ref a_22, .ref a_23, .ref a_24, .int v_25, .ref a_26, .ref a_27, .ref a_28]) := by rw [ef_162, up_ne (kd_ne ka_26 ko0 (by decide))]; exact hfo_145
              have hfo_164 : f_162 a_23 = .inr (9, [.ref a_30, .ref a_31, .int v_32]) := by rw [ef_162, up_ne (kd_ne ka_26 ka_23 (by decide))]; exact hfo_146
              have hfo_165 : f_162 a_24 = .inr (9, [.ref a_35, .ref a_36, .int v_37]) := by rw [ef_162, up_ne (kd_ne ka_26 ka_24 (by decide))]; exact hfo_147
              have hfo_166 : f_162 o1 = .inr (3, [.ref a_46, .ref a_75, .ref a_76, .ref a_49, .ref a_78, .int v_79, .int v_80, .int v_81, .int v_82, .int v_83, .int v_84, .int v_85, .ref a_86, .ref a_87, .ref a_88, .int v_89, .ref a_90, .ref a_91]) := by rw [ef_162, up_ne (kd_ne ka_26 ko1 (by decide))]; exact hfo_148
              have hfo_167 : f_162 a_27 = .inl (cI, 12, .inl g_150) := by rw [ef_162, up_ne (kd_ne ka_26 ka_27 (by decide))]; exact hfo_149
              have hfo_168 : f_162 a_88 = .inl (cI, 1024, .inl g_157) := by rw [ef_162, up_ne (kd_ne ka_26 ka_88 (by decide))]; exact hfo_156
              have hfr0 : ∀ b, kd b ≠ 3 → kd b ≠ 507 → kd b ≠ 525 → kd b ≠ 527 → kd b ≠ 531 → kd b ≠ 532 → f_162 b = f b := fun b q3 q507 q525 q527 q531 q532 => (congrFun ef_162 b).trans ((up_ne (fun e9 => q531 (by rw [e9]; exact ka_26))).trans (hfr0 b q3 q507 q525 q527 q531 q532))
              have hrr3_0 : ∀ b, kd b = 3 → fldR (f_162 b) 0 = fldR (f b) 0 := fun b kb => (congrArg (fun x => fldR x 0) ((congrFun ef_162 b).trans (up_ne (kd_ne ka_26 kb (by decide))))).trans (hrr3_0 b kb)
              have hrr3_3 : ∀ b, kd b = 3 → fldR (f_162 b) 3 = fldR (f b) 3 := fun b kb => (congrArg (fun x => fldR x 3) ((congrFun ef_162 b).trans (up_ne (kd_ne ka_26 kb (by decide))))).trans (hrr3_3 b kb)
              have hfo_169 : f_162 a_26 = .inl (cI, 108, .inl (upd g_160 (Int32.toNatClampNeg x_155) x_158)) := by rw [ef_162]; exact up_self
              obtain ⟨x_170, ex_170⟩ : ∃ y : Int32, y_142 + 1 = y := ⟨_, rfl⟩
              have hx_170 : x_170.toInt = y_142.toInt + 1 := by rw [← ex_170, ad_I (by rw [ti_1]; omega) (by rw [ti_1]; omega), ti_1]
              have bx_170 : (1 ≤ x_170.toInt ∧ x_170.toInt ≤ 9) := by constructor <;> omega
              refine lv_iinc (v := x_170) (lv' := [(6, .int x_170), (5, .int x_92), (4, .int y_16), (3, .int x_2), (0, .ref o0), (1, .ref o1), (2, .int p2)]) hx hb dX6_study_116 hl (k := 0) rfl ex_170 (by decide) rfl (fun ls hl => ?_)
              refine lv_goto (tgt := 84) hx hb dX6_study_119 (by decide) ?_
              exact ih_hloop_141 x_170 (by constructor <;> omega) f_162 hG _ _ hP hS hD hfr0 hrr3_0 hrr3_3 hfo_163 hfo_164 hfo_165 hfo_166 (by omega) ls (lv_sub hl [0, 1, 2, 3, 4, 5, 6] rfl)
        exact hloop_141 10 0 (by decide) f_111 hG _ _ hP hS hD hfr0 hrr3_0 hrr3_3 hfo_112 hfo_113 hfo_114 hfo_115 (by (try rw [ti_0]) <;> omega) ls hl
  exact hloop_15 13 0 (by decide) f hG _ _ hP hS hD hfr0 hrr3_0 hrr3_3 (by (try rw [ti_0]) <;> omega) ls hl
