set_option maxHeartbeats 8000000 in
set_option maxRecDepth 100000 in
theorem s_X3_takeSigns_k3_a507 (l : Launch) (D : va_G) (cI cL cZ cR cG cH : ClassId) (Z : zT) (kd : Nat → Nat) (L : List Nat) (f : Nat → va_E) (hG : GI (okc cI cL cZ cR cG cH L kd) kd L f) (o0 : Nat) (mo0 : o0 ∈ L) (ko0 : kd o0 = 3) (o1 : Nat) (mo1 : o1 ∈ L) (ko1 : kd o1 = 507) (p2 : Int32) : mPV l D cI cL cZ cR cG cH Z yX3_takeSigns cX3_takeSigns 3 none 1 40 [.ref o0, .ref o1, .int p2] L f (fun (f9 : Nat → va_E) => GI (okc cI cL cZ cR cG cH L kd) kd L f9 ∧ (∀ b, kd b ≠ 3 → kd b ≠ 507 → f9 b = f b) ∧ (∀ b, kd b = 3 → fldR (f9 b) 0 = fldR (f b) 0) ∧ (∀ b, kd b = 3 → fldR (f9 b) 3 = fldR (f b) 3)) := by
  obtain ⟨dC, dI⟩ := D
  refine Met.ofW (cc := cX3_takeSigns) (maxL := 3) (ret := none) (by decide) rfl ?_
  intro p e s m args below meth c s₁ B hml hv
  obtain ⟨rfl, hP, hK, hD0, hN, hZ⟩ := hv
  have hx := B.exec
  have hb := B.bytes
  have hr := B.returns
  have hU : ∀ w ∈ wsU, w.before _ s = true := fun w h => atoms_spec (ws := wU yX3_takeSigns cX3_takeSigns 3 none) B.pre w (List.mem_cons_of_mem _ h)
  have hown : s.vm.findClass RX3 = some m.cls := findClass_of_methodNamed B.named
  have hlocks := B.notSynchronized
  have hD := pl_in hD0
  have hS : va_S (fun q => q ∈ L) s.heap s.heap [] := va_S.rf
  have hl := lv_entry ([.ref o0, .ref o1, .int p2]) (n := 3) (Nat.le_of_ble_eq_true rfl)
  rw [lg_entry_eq]
  generalize (lg_sl ([.ref o0, .ref o1, .int p2]) ++ List.replicate (3 - (lg_sl ([.ref o0, .ref o1, .int p2])).length) Slot.unset).toArray = ls at hl ⊢
  have hl : lv_has ls 3 [(0, .ref o0), (1, .ref o1), (2, .int p2)] := hl
  have bp2 : ((-2147483648) ≤ p2.toInt ∧ p2.toInt ≤ 2147483647) := ⟨i32_lo _, i32_hi _⟩
  have hfr0 : ∀ b, kd b ≠ 3 → kd b ≠ 507 → f b = f b := fun _ _ _ => rfl
  have hrr3_0 : ∀ b, kd b = 3 → fldR (f b) 0 = fldR (f b) 0 := fun _ _ => rfl
  have hrr3_3 : ∀ b, kd b = 3 → fldR (f b) 3 = fldR (f b) 3 := fun _ _ => rfl
  refine lv_aload_n hx hb dX3_takeSigns_0 rfl (lv_at hl 0 rfl) ?_
  refine lv_iconst (v := 0) hx hb dX3_takeSigns_1 (by decide) ?_
  refine lv_iload_n hx hb dX3_takeSigns_2 rfl (lv_at hl 2 rfl) ?_
  refine lv_aload_n hx hb dX3_takeSigns_3 rfl (lv_at hl 1 rfl) ?_
  obtain ⟨g_2, hfo_1, hbg_2⟩ := un_507 (hG _ mo1) ko1
  refine tk_alenP (v := 8) hx hb hK hP 0 mo1 hfo_1 rfl rfl dX3_takeSigns_4 ?_
  refine lv_bipush (v := 8) hx hb dX3_takeSigns_5 (by decide) ?_
  refine va_mmin hx hb (by rw [hml]; exact hl.1.symm) hown (hU _ wd_722) (hU _ wd_248) (hU _ wd_249) (hU _ wd_250) (Nat.le_of_ble_eq_true rfl) (Nat.le_of_ble_eq_true rfl) (Nat.le_of_ble_eq_true rfl) (Nat.le_of_ble_eq_true rfl) dX3_takeSigns_7 ?_
  refine tk_topi (y := 8) (by decide) ?_
  refine va_mmin hx hb (by rw [hml]; exact hl.1.symm) hown (hU _ wd_722) (hU _ wd_248) (hU _ wd_249) (hU _ wd_250) (Nat.le_of_ble_eq_true rfl) (Nat.le_of_ble_eq_true rfl) (Nat.le_of_ble_eq_true rfl) (Nat.le_of_ble_eq_true rfl) dX3_takeSigns_10 ?_
  refine lv_topi (fun x_3 ex_3 => ?_)
  have hx_3 := min_I ex_3
  rw [ti_8] at hx_3
  have bx_3 : ((-2147483648) ≤ x_3.toInt ∧ x_3.toInt ≤ 8) := by constructor <;> omega
  refine va_mmax hx hb (by rw [hml]; exact hl.1.symm) hown (hU _ wd_723) (hU _ wd_724) (hU _ wd_249) (hU _ wd_725) (Nat.le_of_ble_eq_true rfl) (Nat.le_of_ble_eq_true rfl) (Nat.le_of_ble_eq_true rfl) (Nat.le_of_ble_eq_true rfl) dX3_takeSigns_13 ?_
  refine lv_topi (fun x_4 ex_4 => ?_)
  have hx_4 := max_I ex_4
  rw [ti_0] at hx_4
  have bx_4 : (0 ≤ x_4.toInt ∧ x_4.toInt ≤ 8) := by constructor <;> omega
  obtain ⟨a_6, a_7, a_8, a_9, a_10, v_11, v_12, v_13, v_14, v_15, v_16, v_17, a_18, a_19, a_20, v_21, a_22, a_23, hfo_5, ⟨ma_6, ka_6⟩, ⟨ma_7, ka_7⟩, ⟨ma_8, ka_8⟩, ⟨ma_9, ka_9⟩, ⟨ma_10, ka_10⟩, bv_11, bv_12, bv_13, ⟨ma_18, ka_18⟩, ⟨ma_19, ka_19⟩, ⟨ma_20, ka_20⟩, bv_21, ⟨ma_22, ka_22⟩, ⟨ma_23, ka_23⟩⟩ := un_3 (hG _ mo0) ko0
  have bv_14 : ((-2147483648) ≤ v_14.toInt ∧ v_14.toInt ≤ 2147483647) := ⟨i32_lo _, i32_hi _⟩
  have bv_15 : ((-2147483648) ≤ v_15.toInt ∧ v_15.toInt ≤ 2147483647) := ⟨i32_lo _, i32_hi _⟩
  have bv_16 : ((-2147483648) ≤ v_16.toInt ∧ v_16.toInt ≤ 2147483647) := ⟨i32_lo _, i32_hi _⟩
  have bv_17 : ((-2147483648) ≤ v_17.toInt ∧ v_17.toInt ≤ 2147483647) := ⟨i32_lo _, i32_hi _⟩
  refine tk_putP (D := (dC, dI)) (ci := 3) (v := .int x_4) (ty := .int) (C := RX3) (T := TX3) (N := 18) hx hb hU inlX3 tyX3 tyX3_ok nmX3 hown hK hP hD hS mo0 hfo_5 rfl 5 (by decide) (hU _ wd_726) (fun _ h9 => h9) rfl (by decide +kernel) rfl rfl (Nat.le_of_ble_eq_true rfl) dX3_takeSigns_16 (fun H locs hP hD hS => ?_)
  obtain ⟨f_25, ef_25⟩ : ∃ y : Nat → va_E, y = va_up f o0 (.inr (3, [.ref a_6, .ref a_7, .ref a_8, .ref a_9, .ref a_10, .int x_4, .int v_12, .int v_13, .int v_14, .int v_15, .int v_16, .int v_17, .ref a_18, .ref a_19, .ref a_20, .int v_21, .ref a_22, .ref a_23])) := ⟨_, rfl⟩
  have hP : va_P (dC, dI) vwCl (va_pl L f_25) H := by rw [ef_25]; exact hP
  have hD : va_D (fun q => q ∈ L) (va_pl L f_25) := by rw [ef_25]; exact hD
  have hG : GI (okc cI cL cZ cR cG cH L kd) kd L f_25 := by rw [ef_25]; exact hG.set o0 (mk_3 ko0 ⟨a_6, a_7, a_8, a_9, a_10, x_4, v_12, v_13, v_14, v_15, v_16, v_17, a_18, a_19, a_20, v_21, a_22, a_23, rfl, ⟨ma_6, ka_6⟩, ⟨ma_7, ka_7⟩, ⟨ma_8, ka_8⟩, ⟨ma_9, ka_9⟩, ⟨ma_10, ka_10⟩, (by constructor <;> omega), (by constructor <;> omega), (by constructor <;> omega), ⟨ma_18, ka_18⟩, ⟨ma_19, ka_19⟩, ⟨ma_20, ka_20⟩, (by constructor <;> omega), ⟨ma_22, ka_22⟩, ⟨ma_23, ka_23⟩⟩)
  have hfo_26 : f_25 o1 = .inl (cI, 8, .inl g_2) := by rw [ef_25, up_ne (kd_ne ko0 ko1 (by decide))]; exact hfo_1
  have hfr0 : ∀ b, kd b ≠ 3 → kd b ≠ 507 → f_25 b = f b := fun b q3 q507 => (congrFun ef_25 b).trans ((up_ne (fun e9 => q3 (by rw [e9]; exact ko0))).trans (hfr0 b q3 q507))
  have hrr3_0 : ∀ b, kd b = 3 → fldR (f_25 b) 0 = fldR (f b) 0 := fun b kb => ((congrArg (fun x => fldR x 0) (congrFun ef_25 b)).trans (fr_up (by rw [hfo_5]; rfl) b)).trans (hrr3_0 b kb)
  have hrr3_3 : ∀ b, kd b = 3 → fldR (f_25 b) 3 = fldR (f b) 3 := fun b kb => ((congrArg (fun x => fldR x 3) (congrFun ef_25 b)).trans (fr_up (by rw [hfo_5]; rfl) b)).trans (hrr3_3 b kb)
  have hfo_27 : f_25 o0 = .inr (3, [.ref a_6, .ref a_7, .ref a_8, .ref a_9, .ref a_10, .int x_4, .int v_12, .int v_13, .int v_14, .int v_15, .int v_16, .int v_17, .ref a_18, .ref a_19, .ref a_20, .int v_21, .ref a_22, .ref a_23]) := by rw [ef_25]; exact up_self
  refine lv_aload_n hx hb dX3_takeSigns_19 rfl (lv_at hl 1 rfl) ?_
  refine lv_iconst (v := 0) hx hb dX3_takeSigns_20 (by decide) ?_
  refine lv_aload_n hx hb dX3_takeSigns_21 rfl (lv_at hl 0 rfl) ?_
  refine tk_getP (D := (dC, dI)) (ci := 3) (v := .ref a_10) (C := RX3) (T := TX3) (N := 18) hx hb hU inlX3 hown hK hP mo0 hfo_27 rfl 4 (by decide) (hU _ wd_61) (fun _ h9 => h9) rfl dX3_takeSigns_22 ?_
  refine lv_iconst (v := 0) hx hb dX3_takeSigns_25 (by decide) ?_
  refine lv_aload_n hx hb dX3_takeSigns_26 rfl (lv_at hl 0 rfl) ?_
  refine tk_getP (D := (dC, dI)) (ci := 3) (v := .int x_4) (C := RX3) (T := TX3) (N := 18) hx hb hU inlX3 hown hK hP mo0 hfo_27 rfl 5 (by decide) (hU _ wd_726) (fun _ h9 => h9) rfl dX3_takeSigns_27 ?_
  obtain ⟨g_29, hfo_28, hbg_29⟩ := un_507 (hG _ ma_10) ka_10
  refine tk_copyP hx hb (by rw [hml]; exact hl.1.symm) hown (hU _ wd_727) (hU _ wd_253) (hU _ wd_254) (hU _ wd_255) hK hP hD hS 0 mo1 ma_10 hfo_26 hfo_28 rfl (by decide) (by decide) (by rw [Int32.lt_iff_toInt_lt, ti_0]; omega) (cp_ok (by rw [ti_0]; omega) (by omega) (by rw [ti_0]; omega)) (cp_ok (by rw [ti_0]; omega) (by omega) (by rw [ti_0]; omega)) (Nat.le_of_ble_eq_true rfl) (Nat.le_of_ble_eq_true rfl) dX3_takeSigns_30 (fun H locs hP hD hS => ?_)
  obtain ⟨f_31, ef_31⟩ : ∃ y : Nat → va_E, y = va_up f_25 a_10 (.inl (cI, 8, .inl (va_cpy g_2 g_29 (Int32.toNatClampNeg 0) (Int32.toNatClampNeg 0) (Int32.toNatClampNeg x_4)))) := ⟨_, rfl⟩
  have hP : va_P (dC, dI) vwCl (va_pl L f_31) H := by rw [ef_31]; exact hP
  have hD : va_D (fun q => q ∈ L) (va_pl L f_31) := by rw [ef_31]; exact hD
  have hG : GI (okc cI cL cZ cR cG cH L kd) kd L f_31 := by rw [ef_31]; exact hG.set a_10 (mk_507 ka_10 ⟨_, rfl, okI_cpy (fun j => by have := hbg_2 j; constructor <;> omega) hbg_29 _ _ _⟩)
  have hfo_32 : f_31 o0 = .inr (3, [.ref a_6, .ref a_7, .ref a_8, .ref a_9, .ref a_10, .int x_4, .int v_12, .int v_13, .int v_14, .int v_15, .int v_16, .int v_17, .ref a_18, .ref a_19, .ref a_20, .int v_21, .ref a_22, .ref a_23]) := by rw [ef_31, up_ne (kd_ne ka_10 ko0 (by decide))]; exact hfo_27
  have hfr0 : ∀ b, kd b ≠ 3 → kd b ≠ 507 → f_31 b = f b := fun b q3 q507 => (congrFun ef_31 b).trans ((up_ne (fun e9 => q507 (by rw [e9]; exact ka_10))).trans (hfr0 b q3 q507))
  have hrr3_0 : ∀ b, kd b = 3 → fldR (f_31 b) 0 = fldR (f b) 0 := fun b kb => (congrArg (fun x => fldR x 0) ((congrFun ef_31 b).trans (up_ne (kd_ne ka_10 kb (by decide))))).trans (hrr3_0 b kb)
  have hrr3_3 : ∀ b, kd b = 3 → fldR (f_31 b) 3 = fldR (f b) 3 := fun b kb => (congrArg (fun x => fldR x 3) ((congrFun ef_31 b).trans (up_ne (kd_ne ka_10 kb (by decide))))).trans (hrr3_3 b kb)
  have hfo_33 : f_31 a_10 = .inl (cI, 8, .inl (va_cpy g_2 g_29 (Int32.toNatClampNeg 0) (Int32.toNatClampNeg 0) (Int32.toNatClampNeg x_4))) := by rw [ef_31]; exact up_self
  exact W.vret hx hb hr (fun t ht hW => ⟨⟨f_31, rfl, ⟨hG, hfr0, hrr3_0, hrr3_3⟩, by rw [ht]; exact hP, va_K.moved hW.alike hK, pl_in hD⟩, hS.F ht⟩) hS.2.2 dX3_takeSigns_33
set_option maxHeartbeats 8000000 in
set_option maxRecDepth 100000 in
theorem s_X10_add_k10 (l : Launch) (D : va_G) (cI cL cZ cR cG cH : ClassId) (Z : zT) (kd : Nat → Nat) (L : List Nat) (f : Nat → va_E) (hG : GI (okc cI cL cZ cR cG cH L kd) kd L f) (o0 : Nat) (mo0 : o0 ∈ L) (ko0 : kd o0 = 10) (p1 : Int32) : mPV l D cI cL cZ cR cG cH Z yX10_add cX10_add 5 none 1 40 [.ref o0, .int p1] L f (fun (f9 : Nat → va_E) => GI (okc cI cL cZ cR cG cH L kd) kd L f9 ∧ (∀ b, kd b ≠ 10 → kd b ≠ 524 → f9 b = f b)) := by
  obtain ⟨dC, dI⟩ := D
  refine Met.ofW (cc := cX10_add) (maxL := 5) (ret := none) (by decide) rfl ?_
  intro p e s m args below meth c s₁ B hml hv
  obtain ⟨rfl, hP, hK, hD0, hN, hZ⟩ := hv
  have hx := B.exec
  have hb := B.bytes
  have hr := B.returns
  have hU : ∀ w ∈ wsU, w.before _ s = true := fun w h => atoms_spec (ws := wU yX10_add cX10_add 5 none) B.pre w (List.mem_cons_of_mem _ h)
  have hown : s.vm.findClass RX10 = some m.cls := findClass_of_methodNamed B.named
  have hlocks := B.notSynchronized
  have hD := pl_in hD0
  have hS : va_S (fun q => q ∈ L) s.heap s.heap [] := va_S.rf
  have hl := lv_entry ([.ref o0, .int p1]) (n := 5) (Nat.le_of_ble_eq_true rfl)
  rw [lg_entry_eq]
  generalize (lg_sl ([.ref o0, .int p1]) ++ List.replicate (5 - (lg_sl ([.ref o0, .int p1])).length) Slot.unset).toArray = ls at hl ⊢
  have hl : lv_has ls 5 [(0, .ref o0), (1, .int p1)] := hl
  have bp1 : ((-2147483648) ≤ p1.toInt ∧ p1.toInt ≤ 2147483647) := ⟨i32_lo _, i32_hi _⟩
  have hfr0 : ∀ b, kd b ≠ 10 → kd b ≠ 524 → f b = f b := fun _ _ _ => rfl
  refine lv_iconst (v := 0) hx hb dX10_add_0 (by decide) ?_
  refine lv_istore_n (lv' := [(2, .int 0), (0, .ref o0), (1, .int p1)]) hx hb dX10_add_1 rfl hl (by decide) rfl (fun ls hl => ?_)
  refine lv_aload_n hx hb dX10_add_2 rfl (lv_at hl 1 rfl) ?_
  obtain ⟨a_2, v_3, v_4, hfo_1, ⟨ma_2, ka_2⟩, bv_3, bv_4⟩ := un_10 (hG _ mo0) ko0
  refine tk_getP (D := (dC, dI)) (ci := 10) (v := .int v_3) (C := RX10) (T := TX10) (N := 3) hx hb hU inlX10 hown hK hP mo0 hfo_1 rfl 1 (by decide) (hU _ wd_560) (fun _ h9 => h9) rfl dX10_add_3 ?_
  refine lv_istore_n (lv' := [(3, .int v_3), (2, .int 0), (0, .ref o0), (1, .int p1)]) hx hb dX10_add_6 rfl hl (by decide) rfl (fun ls hl => ?_)
  have hloop_8 : ∀ (n : Nat), ∀ (y_9 : Int32), (0 ≤ y_9.toInt ∧ y_9.toInt ≤ 200) → ∀ (y_10 : Int32), (0 ≤ y_10.toInt ∧ y_10.toInt ≤ 200) → (y_10.toInt ≤ y_9.toInt) → (y_9.toInt ≤ v_3.toInt) → y_9.toInt - y_10.toInt < (n : Int) → ∀ (ls : Array Slot), lv_has ls 5 [(3, .int y_9), (2, .int y_10), (0, .ref o0), (1, .int p1)] → W p l e (headSpec (wU yX10_add cX10_add 5 none) { frames := 1, cells := 0, slots := 0, locals := 40 }).room s m [.ref o0, .int p1].toArray below meth c s.heap [] 0 0 (MQ below (va_Qv (fun (f9 : Nat → va_E) => GI (okc cI cL cZ cR cG cH L kd) kd L f9 ∧ (∀ b, kd b ≠ 10 → kd b ≠ 524 → f9 b = f b)) (qP (dC, dI) cI cL cZ cR cG cH L) (fun q => q ∈ L)) [.ref o0, .int p1].toArray s 0 0 (fun q => q ∈ L)) (F0 m 7 ls []) := by
    intro n
    induction n with
    | zero => intro y_9 by_9 y_10 by_10 hrelhloop_8_0 hrelhloop_8_1 hmuhloop_8 ls hl; exfalso; omega
    | succ n ih_hloop_8 =>
      intro y_9 by_9 y_10 by_10 hrelhloop_8_0 hrelhloop_8_1 hmuhloop_8 ls hl
      refine lv_iload_n hx hb dX10_add_7 rfl (lv_at hl 1 rfl) ?_
      refine lv_iload_n hx hb dX10_add_8 rfl (lv_at hl 0 rfl) ?_
      refine lv_icmp_ge (tgt := 44) hx hb dX10_add_9 (by decide) (fun c_11 => ?_) (fun c_11 => ?_)
      · skip
        rw [Int32.le_iff_toInt_le] at c_11
        refine lv_iload_n hx hb dX10_add_44 rfl (lv_at hl 1 rfl) ?_
        refine lv_aload_n hx hb dX10_add_45 rfl (lv_at hl 2 rfl) ?_
        refine tk_getP (D := (dC, dI)) (ci := 10) (v := .int v_3) (C := RX10) (T := TX10) (N := 3) hx hb hU inlX10 hown hK hP mo0 hfo_1 rfl 1 (by decide) (hU _ wd_560) (fun _ h9 => h9) rfl dX10_add_46 ?_
        refine lv_icmp_ge (tgt := 63) hx hb dX10_add_49 (by decide) (fun c_12 => ?_) (fun c_12 => ?_)
        · skip
          rw [Int32.le_iff_toInt_le] at c_12
          refine lv_aload_n hx hb dX10_add_63 rfl (lv_at hl 2 rfl) ?_
          refine tk_getP (D := (dC, dI)) (ci := 10) (v := .int v_3) (C := RX10) (T := TX10) (N := 3) hx hb hU inlX10 hown hK hP mo0 hfo_1 rfl 1 (by decide) (hU _ wd_560) (fun _ h9 => h9) rfl dX10_add_64 ?_
          refine lv_sipush (v := 200) hx hb dX10_add_67 (by decide) ?_
          refine lv_icmp_ne (tgt := 79) hx hb dX10_add_70 (by decide) (fun c_13 => ?_) (fun c_13 => ?_)
          · skip
            rw [← Int32.toInt_inj, ti_200] at c_13
            refine lv_aload_n hx hb dX10_add_79 rfl (lv_at hl 2 rfl) ?_
            refine tk_getP (D := (dC, dI)) (ci := 10) (v := .ref a_2) (C := RX10) (T := TX10) (N := 3) hx hb hU inlX10 hown hK hP mo0 hfo_1 rfl 0 (by decide) (hU _ wd_116) (fun _ h9 => h9) rfl dX10_add_80 ?_
            refine lv_iload_n hx hb dX10_add_83 rfl (lv_at hl 1 rfl) ?_
            refine lv_aload_n hx hb dX10_add_84 rfl (lv_at hl 2 rfl) ?_
            refine tk_getP (D := (dC, dI)) (ci := 10) (v := .ref a_2) (C := RX10) (T := TX10) (N := 3) hx hb hU inlX10 hown hK hP mo0 hfo_1 rfl 0 (by decide) (hU _ wd_116) (fun _ h9 => h9) rfl dX10_add_85 ?_
            refine lv_iload_n hx hb dX10_add_88 rfl (lv_at hl 1 rfl) ?_
            refine lv_iconst (v := 1) hx hb dX10_add_89 (by decide) ?_
            refine lv_iadd hx hb dX10_add_90 ?_
            refine lv_topi (fun x_14 ex_14 => ?_)
            have hx_14 : x_14.toInt = y_10.toInt + 1 := by rw [ex_14, ad_I (by rw [ti_1]; omega) (by rw [ti_1]; omega), ti_1]
            have bx_14 : (1 ≤ x_14.toInt ∧ x_14.toInt ≤ 201) := by constructor <;> omega
            refine lv_aload_n hx hb dX10_add_91 rfl (lv_at hl 2 rfl) ?_
            refine tk_getP (D := (dC, dI)) (ci := 10) (v := .int v_3) (C := RX10) (T := TX10) (N := 3) hx hb hU inlX10 hown hK hP mo0 hfo_1 rfl 1 (by decide) (hU _ wd_560) (fun _ h9 => h9) rfl dX10_add_92 ?_
            refine lv_iload_n hx hb dX10_add_95 rfl (lv_at hl 1 rfl) ?_
            refine lv_isub hx hb dX10_add_96 ?_
            refine lv_topi (fun x_15 ex_15 => ?_)
            have hx_15 : x_15.toInt = v_3.toInt - y_10.toInt := by rw [ex_15, sb_I (by omega) (by omega)]
            have bx_15 : ((-200) ≤ x_15.toInt ∧ x_15.toInt ≤ 199) := by constructor <;> omega
            obtain ⟨g_17, hfo_16, hbg_17⟩ := un_524 (hG _ ma_2) ka_2
            refine tk_copyP hx hb (by rw [hml]; exact hl.1.symm) hown (hU _ wd_818) (hU _ wd_253) (hU _ wd_254) (hU _ wd_255) hK hP hD hS 0 ma_2 ma_2 hfo_16 hfo_16 rfl (by rw [Int32.lt_iff_toInt_lt, ti_0]; omega) (by rw [Int32.lt_iff_toInt_lt, ti_0]; omega) (by rw [Int32.lt_iff_toInt_lt, ti_0]; omega) (cp_ok (by omega) (by omega) (by omega)) (cp_ok (by omega) (by omega) (by omega)) (Nat.le_of_ble_eq_true rfl) (Nat.le_of_ble_eq_true rfl) dX10_add_97 (fun H locs hP hD hS => ?_)
            obtain ⟨f_19, ef_19⟩ : ∃ y : Nat → va_E, y = va_up f a_2 (.inl (cI, 200, .inl (va_cpy g_17 g_17 (Int32.toNatClampNeg y_10) (Int32.toNatClampNeg x_14) (Int32.toNatClampNeg x_15)))) := ⟨_, rfl⟩
            have hP : va_P (dC, dI) vwCl (va_pl L f_19) H := by rw [ef_19]; exact hP
            have hD : va_D (fun q => q ∈ L) (va_pl L f_19) := by rw [ef_19]; exact hD
            have hG : GI (okc cI cL cZ cR cG cH L kd) kd L f_19 := by rw [ef_19]; exact hG.set a_2 (mk_524 ka_2 ⟨_, rfl, okI_cpy (fun j => by have := hbg_17 j; constructor <;> omega) hbg_17 _ _ _⟩)
            have hfo_20 : f_19 o0 = .inr (10, [.ref a_2, .int v_3, .int v_4]) := by rw [ef_19, up_ne (kd_ne ka_2 ko0 (by decide))]; exact hfo_1
            have hfr0 : ∀ b, kd b ≠ 10 → kd b ≠ 524 → f_19 b = f b := fun b q10 q524 => (congrFun ef_19 b).trans ((up_ne (fun e9 => q524 (by rw [e9]; exact ka_2))).trans (hfr0 b q10 q524))
            have hfo_21 : f_19 a_2 = .inl (cI, 200, .inl (va_cpy g_17 g_17 (Int32.toNatClampNeg y_10) (Int32.toNatClampNeg x_14) (Int32.toNatClampNeg x_15))) := by rw [ef_19]; exact up_self
            refine lv_aload_n hx hb dX10_add_100 rfl (lv_at hl 2 rfl) ?_
            refine tk_getP (D := (dC, dI)) (ci := 10) (v := .ref a_2) (C := RX10) (T := TX10) (N := 3) hx hb hU inlX10 hown hK hP mo0 hfo_20 rfl 0 (by decide) (hU _ wd_116) (fun _ h9 => h9) rfl dX10_add_101 ?_
            refine lv_iload_n hx hb dX10_add_104 rfl (lv_at hl 1 rfl) ?_
            refine lv_iload_n hx hb dX10_add_105 rfl (lv_at hl 3 rfl) ?_
            obtain ⟨g_23, hfo_22, hbg_23⟩ := un_524 (hG _ ma_2) ka_2
            refine tk_istP hx hb hK hP hD hS 0 ma_2 hfo_22 rfl (vp_in_iff.mpr (by constructor <;> omega)) dX10_add_106 (fun H locs hP hD hS => ?_)
            obtain ⟨f_25, ef_25⟩ : ∃ y : Nat → va_E, y = va_up f_19 a_2 (.inl (cI, 200, .inl (upd g_23 (Int32.toNatClampNeg y_10) p1))) := ⟨_, rfl⟩
            have hP : va_P (dC, dI) vwCl (va_pl L f_25) H := by rw [ef_25]; exact hP
            have hD : va_D (fun q => q ∈ L) (va_pl L f_25) := by rw [ef_25]; exact hD
            have hG : GI (okc cI cL cZ cR cG cH L kd) kd L f_25 := by rw [ef_25]; exact hG.set a_2 (mk_524 ka_2 ⟨_, rfl, okI_up hbg_23 ⟨i32_lo _, i32_hi _⟩ _⟩)
            have hfo_26 : f_25 o0 = .inr (10, [.ref a_2, .int v_3, .int v_4]) := by rw [ef_25, up_ne (kd_ne ka_2 ko0 (by decide))]; exact hfo_20
            have hfr0 : ∀ b, kd b ≠ 10 → kd b ≠ 524 → f_25 b = f b := fun b q10 q524 => (congrFun ef_25 b).trans ((up_ne (fun e9 => q524 (by rw [e9]; exact ka_2))).trans (hfr0 b q10 q524))
            have hfo_27 : f_25 a_2 = .inl (cI, 200, .inl (upd g_23 (Int32.toNatClampNeg y_10) p1)) := by rw [ef_25]; exact up_self
            refine lv_aload_n hx hb dX10_add_107 rfl (lv_at hl 2 rfl) ?_
            refine lv_dup hx hb dX10_add_108 rfl ?_
            refine tk_getP (D := (dC, dI)) (ci := 10) (v := .int v_3) (C := RX10) (T := TX10) (N := 3) hx hb hU inlX10 hown hK hP mo0 hfo_26 rfl 1 (by decide) (hU _ wd_560) (fun _ h9 => h9) rfl dX10_add_109 ?_
            refine lv_iconst (v := 1) hx hb dX10_add_112 (by decide) ?_
            refine lv_iadd hx hb dX10_add_113 ?_
            refine lv_topi (fun x_28 ex_28 => ?_)
            have hx_28 : x_28.toInt = v_3.toInt + 1 := by rw [ex_28, ad_I (by rw [ti_1]; omega) (by rw [ti_1]; omega), ti_1]
            have bx_28 : (1 ≤ x_28.toInt ∧ x_28.toInt ≤ 200) := by constructor <;> omega
            refine tk_putP (D := (dC, dI)) (ci := 10) (v := .int x_28) (ty := .int) (C := RX10) (T := TX10) (N := 3) hx hb hU inlX10 tyX10 tyX10_ok nmX10 hown hK hP hD hS mo0 hfo_26 rfl 1 (by decide) (hU _ wd_560) (fun _ h9 => h9) rfl (by decide +kernel) rfl rfl (Nat.le_of_ble_eq_true rfl) dX10_add_114 (fun H locs hP hD hS => ?_)
            obtain ⟨f_30, ef_30⟩ : ∃ y : Nat → va_E, y = va_up f_25 o0 (.inr (10, [.ref a_2, .int x_28, .int v_4])) := ⟨_, rfl⟩
            have hP : va_P (dC, dI) vwCl (va_pl L f_30) H := by rw [ef_30]; exact hP
            have hD : va_D (fun q => q ∈ L) (va_pl L f_30) := by rw [ef_30]; exact hD
            have hG : GI (okc cI cL cZ cR cG cH L kd) kd L f_30 := by rw [ef_30]; exact hG.set o0 (mk_10 ko0 ⟨a_2, x_28, v_4, rfl, ⟨ma_2, ka_2⟩, (by constructor <;> omega), (by constructor <;> omega)⟩)
            have hfr0 : ∀ b, kd b ≠ 10 → kd b ≠ 524 → f_30 b = f b := fun b q10 q524 => (congrFun ef_30 b).trans ((up_ne (fun e9 => q10 (by rw [e9]; exact ko0))).trans (hfr0 b q10 q524))
            have hfo_31 : f_30 o0 = .inr (10, [.ref a_2, .int x_28, .int v_4]) := by rw [ef_30]; exact up_self
            exact W.vret hx hb hr (fun t ht hW => ⟨⟨f_30, rfl, ⟨hG, hfr0⟩, by rw [ht]; exact hP, va_K.moved hW.alike hK, pl_in hD⟩, hS.F ht⟩) hS.2.2 dX10_add_117
          · skip
            rw [← Int32.toInt_inj, ti_200] at c_13
            refine lv_aload_n hx hb dX10_add_73 rfl (lv_at hl 2 rfl) ?_
            refine lv_iconst (v := 1) hx hb dX10_add_74 (by decide) ?_
            refine tk_putP (D := (dC, dI)) (ci := 10) (v := .int 1) (ty := .boolean) (C := RX10) (T := TX10) (N := 3) hx hb hU inlX10 tyX10 tyX10_ok nmX10 hown hK hP hD hS mo0 hfo_1 rfl 2 (by decide) (hU _ wd_561) (fun _ h9 => h9) rfl (by decide +kernel) rfl rfl (Nat.le_of_ble_eq_true rfl) dX10_add_75 (fun H locs hP hD hS => ?_)
            obtain ⟨f_33, ef_33⟩ : ∃ y : Nat → va_E, y = va_up f o0 (.inr (10, [.ref a_2, .int v_3, .int 1])) := ⟨_, rfl⟩
            have hP : va_P (dC, dI) vwCl (va_pl L f_33) H := by rw [ef_33]; exact hP
            have hD : va_D (fun q => q ∈ L) (va_pl L f_33) := by rw [ef_33]; exact hD
            have hG : GI (okc cI cL cZ cR cG cH L kd) kd L f_33 := by rw [ef_33]; exact hG.set o0 (mk_10 ko0 ⟨a_2, v_3, 1, rfl, ⟨ma_2, ka_2⟩, (by constructor <;> omega), (by decide)⟩)
            have hfr0 : ∀ b, kd b ≠ 10 → kd b ≠ 524 → f_33 b = f b := fun b q10 q524 => (congrFun ef_33 b).trans ((up_ne (fun e9 => q10 (by rw [e9]; exact ko0))).trans (hfr0 b q10 q524))
            have hfo_34 : f_33 o0 = .inr (10, [.ref a_2, .int v_3, .int 1]) := by rw [ef_33]; exact up_self
            exact W.vret hx hb hr (fun t ht hW => ⟨⟨f_33, rfl, ⟨hG, hfr0⟩, by rw [ht]; exact hP, va_K.moved hW.alike hK, pl_in hD⟩, hS.F ht⟩) hS.2.2 dX10_add_78
        · skip
          rw [Int32.le_iff_toInt_le] at c_12
          refine lv_aload_n hx hb dX10_add_52 rfl (lv_at hl 2 rfl) ?_
          refine tk_getP (D := (dC, dI)) (ci := 10) (v := .ref a_2) (C := RX10) (T := TX10) (N := 3) hx hb hU inlX10 hown hK hP mo0 hfo_1 rfl 0 (by decide) (hU _ wd_116) (fun _ h9 => h9) rfl dX10_add_53 ?_
          refine lv_iload_n hx hb dX10_add_56 rfl (lv_at hl 1 rfl) ?_
          obtain ⟨g_36, hfo_35, hbg_36⟩ := un_524 (hG _ ma_2) ka_2
          refine tk_ildP hx hb hK hP 0 ma_2 hfo_35 rfl (vp_in_iff.mpr (by constructor <;> omega)) dX10_add_57 ?_
          refine lv_topi (fun x_37 ex_37 => ?_)
          have bx_37 : ((-2147483648) ≤ x_37.toInt ∧ x_37.toInt ≤ 2147483647) := ⟨i32_lo _, i32_hi _⟩
          refine lv_iload_n hx hb dX10_add_58 rfl (lv_at hl 3 rfl) ?_
          refine lv_icmp_ne (tgt := 63) hx hb dX10_add_59 (by decide) (fun c_38 => ?_) (fun c_38 => ?_)
          · skip
            rw [← Int32.toInt_inj] at c_38
            refine lv_aload_n hx hb dX10_add_63 rfl (lv_at hl 2 rfl) ?_
            refine tk_getP (D := (dC, dI)) (ci := 10) (v := .int v_3) (C := RX10) (T := TX10) (N := 3) hx hb hU inlX10 hown hK hP mo0 hfo_1 rfl 1 (by decide) (hU _ wd_560) (fun _ h9 => h9) rfl dX10_add_64 ?_
            refine lv_sipush (v := 200) hx hb dX10_add_67 (by decide) ?_
            refine lv_icmp_ne (tgt := 79) hx hb dX10_add_70 (by decide) (fun c_39 => ?_) (fun c_39 => ?_)
            · skip
              rw [← Int32.toInt_inj, ti_200] at c_39
              refine lv_aload_n hx hb dX10_add_79 rfl (lv_at hl 2 rfl) ?_
              refine tk_getP (D := (dC, dI)) (ci := 10) (v := .ref a_2) (C := RX10) (T := TX10) (N := 3) hx hb hU inlX10 hown hK hP mo0 hfo_1 rfl 0 (by decide) (hU _ wd_116) (fun _ h9 => h9) rfl dX10_add_80 ?_
              refine lv_iload_n hx hb dX10_add_83 rfl (lv_at hl 1 rfl) ?_
              refine lv_aload_n hx hb dX10_add_84 rfl (lv_at hl 2 rfl) ?_
              refine tk_getP (D := (dC, dI)) (ci := 10) (v := .ref a_2) (C := RX10) (T := TX10) (N := 3) hx hb hU inlX10 hown hK hP mo0 hfo_1 rfl 0 (by decide) (hU _ wd_116) (fun _ h9 => h9) rfl dX10_add_85 ?_
              refine lv_iload_n hx hb dX10_add_88 rfl (lv_at hl 1 rfl) ?_
              refine lv_iconst (v := 1) hx hb dX10_add_89 (by decide) ?_
              refine lv_iadd hx hb dX10_add_90 ?_
              refine lv_topi (fun x_40 ex_40 => ?_)
              have hx_40 : x_40.toInt = y_10.toInt + 1 := by rw [ex_40, ad_I (by rw [ti_1]; omega) (by rw [ti_1]; omega), ti_1]
              have bx_40 : (1 ≤ x_40.toInt ∧ x_40.toInt ≤ 200) := by constructor <;> omega
              refine lv_aload_n hx hb dX10_add_91 rfl (lv_at hl 2 rfl) ?_
              refine tk_getP (D := (dC, dI)) (ci := 10) (v := .int v_3) (C := RX10) (T := TX10) (N := 3) hx hb hU inlX10 hown hK hP mo0 hfo_1 rfl 1 (by decide) (hU _ wd_560) (fun _ h9 => h9) rfl dX10_add_92 ?_
              refine lv_iload_n hx hb dX10_add_95 rfl (lv_at hl 1 rfl) ?_
              refine lv_isub hx hb dX10_add_96 ?_
              refine lv_topi (fun x_41 ex_41 => ?_)
              have hx_41 : x_41.toInt = v_3.toInt - y_10.toInt := by rw [ex_41, sb_I (by omega) (by omega)]
              have bx_41 : ((-198) ≤ x_41.toInt ∧ x_41.toInt ≤ 199) := by constructor <;> omega
              refine tk_copyP hx hb (by rw [hml]; exact hl.1.symm) hown (hU _ wd_818) (hU _ wd_253) (hU _ wd_254) (hU _ wd_255) hK hP hD hS 0 ma_2 ma_2 hfo_35 hfo_35 rfl (by rw [Int32.lt_iff_toInt_lt, ti_0]; omega) (by rw [Int32.lt_iff_toInt_lt, ti_0]; omega) (by rw [Int32.lt_iff_toInt_lt, ti_0]; omega) (cp_ok (by omega) (by omega) (by omega)) (cp_ok (by omega) (by omega) (by omega)) (Nat.le_of_ble_eq_true rfl) (Nat.le_of_ble_eq_true rfl) dX10_add_97 (fun H locs hP hD hS => ?_)
              obtain ⟨f_43, ef_43⟩ : ∃ y : Nat → va_E, y = va_up f a_2 (.inl (cI, 200, .inl (va_cpy g_36 g_36 (Int32.toNatClampNeg y_10) (Int32.toNatClampNeg x_40) (Int32.toNatClampNeg x_41)))) := ⟨_, rfl⟩
              have hP : va_P (dC, dI) vwCl (va_pl L f_43) H := by rw [ef_43]; exact hP
              have hD : va_D (fun q => q ∈ L) (va_pl L f_43) := by rw [ef_43]; exact hD
              have hG : GI (okc cI cL cZ cR cG cH L kd) kd L f_43 := by rw [ef_43]; exact hG.set a_2 (mk_524 ka_2 ⟨_, rfl, okI_cpy (fun j => by have := hbg_36 j; constructor <;> omega) hbg_36 _ _ _⟩)
              have hfo_44 : f_43 o0 = .inr (10, [.ref a_2, .int v_3, .int v_4]) := by rw [ef_43, up_ne (kd_ne ka_2 ko0 (by decide))]; exact hfo_1
              have hfr0 : ∀ b, kd b ≠ 10 → kd b ≠ 524 → f_43 b = f b := fun b q10 q524 => (congrFun ef_43 b).trans ((up_ne (fun e9 => q524 (by rw [e9]; exact ka_2))).trans (hfr0 b q10 q524))
              have hfo_45 : f_43 a_2 = .inl (cI, 200, .inl (va_cpy g_36 g_36 (Int32.toNatClampNeg y_10) (Int32.toNatClampNeg x_40) (Int32.toNatClampNeg x_41))) := by rw [ef_43]; exact up_self
              refine lv_aload_n hx hb dX10_add_100 rfl (lv_at hl 2 rfl) ?_
              refine tk_getP (D := (dC, dI)) (ci := 10) (v := .ref a_2) (C := RX10) (T := TX10) (N := 3) hx hb hU inlX10 hown hK hP mo0 hfo_44 rfl 0 (by decide) (hU _ wd_116) (fun _ h9 => h9) rfl dX10_add_101 ?_
              refine lv_iload_n hx hb dX10_add_104 rfl (lv_at hl 1 rfl) ?_
              refine lv_iload_n hx hb dX10_add_105 rfl (lv_at hl 3 rfl) ?_
              obtain ⟨g_47, hfo_46, hbg_47⟩ := un_524 (hG _ ma_2) ka_2
              refine tk_istP hx hb hK hP hD hS 0 ma_2 hfo_46 rfl (vp_in_iff.mpr (by constructor <;> omega)) dX10_add_106 (fun H locs hP hD hS => ?_)
              obtain ⟨f_49, ef_49⟩ : ∃ y : Nat → va_E, y = va_up f_43 a_2 (.inl (cI, 200, .inl (upd g_47 (Int32.toNatClampNeg y_10) p1))) := ⟨_, rfl⟩
              have hP : va_P (dC, dI) vwCl (va_pl L f_49) H := by rw [ef_49]; exact hP
              have hD : va_D (fun q => q ∈ L) (va_pl L f_49) := by rw [ef_49]; exact hD
              have hG : GI (okc cI cL cZ cR cG cH L kd) kd L f_49 := by rw [ef_49]; exact hG.set a_2 (mk_524 ka_2 ⟨_, rfl, okI_up hbg_47 ⟨i32_lo _, i32_hi _⟩ _⟩)
              have hfo_50 : f_49 o0 = .inr (10, [.ref a_2, .int v_3, .int v_4]) := by rw [ef_49, up_ne (kd_ne ka_2 ko0 (by decide))]; exact hfo_44
              have hfr0 : ∀ b, kd b ≠ 10 → kd b ≠ 524 → f_49 b = f b := fun b q10 q524 => (congrFun ef_49 b).trans ((up_ne (fun e9 => q524 (by rw [e9]; exact ka_2))).trans (hfr0 b q10 q524))
              have hfo_51 : f_49 a_2 = .inl (cI, 200, .inl (upd g_47 (Int32.toNatClampNeg y_10) p1)) := by rw [ef_49]; exact up_self
              refine lv_aload_n hx hb dX10_add_107 rfl (lv_at hl 2 rfl) ?_
              refine lv_dup hx hb dX10_add_108 rfl ?_
              refine tk_getP (D := (dC, dI)) (ci := 10) (v := .int v_3) (C := RX10) (T := TX10) (N := 3) hx hb hU inlX10 hown hK hP mo0 hfo_50 rfl 1 (by decide) (hU _ wd_560) (fun _ h9 => h9) rfl dX10_add_109 ?_
              refine lv_iconst (v := 1) hx hb dX10_add_112 (by decide) ?_
              refine lv_iadd hx hb dX10_add_113 ?_
              refine lv_topi (fun x_52 ex_52 => ?_)
              have hx_52 : x_52.toInt = v_3.toInt + 1 := by rw [ex_52, ad_I (by rw [ti_1]; omega) (by rw [ti_1]; omega), ti_1]
              have bx_52 : (2 ≤ x_52.toInt ∧ x_52.toInt ≤ 200) := by constructor <;> omega
              refine tk_putP (D := (dC, dI)) (ci := 10) (v := .int x_52) (ty := .int) (C := RX10) (T := TX10) (N := 3) hx hb hU inlX10 tyX10 tyX10_ok nmX10 hown hK hP hD hS mo0 hfo_50 rfl 1 (by decide) (hU _ wd_560) (fun _ h9 => h9) rfl (by decide +kernel) rfl rfl (Nat.le_of_ble_eq_true rfl) dX10_add_114 (fun H locs hP hD hS => ?_)
              obtain ⟨f_54, ef_54⟩ : ∃ y : Nat → va_E, y = va_up f_49 o0 (.inr (10, [.ref a_2, .int x_52, .int v_4])) := ⟨_, rfl⟩
              have hP : va_P (dC, dI) vwCl (va_pl L f_54) H := by rw [ef_54]; exact hP
              have hD : va_D (fun q => q ∈ L) (va_pl L f_54) := by rw [ef_54]; exact hD
              have hG : GI (okc cI cL cZ cR cG cH L kd) kd L f_54 := by rw [ef_54]; exact hG.set o0 (mk_10 ko0 ⟨a_2, x_52, v_4, rfl, ⟨ma_2, ka_2⟩, (by constructor <;> omega), (by constructor <;> omega)⟩)
              have hfr0 : ∀ b, kd b ≠ 10 → kd b ≠ 524 → f_54 b = f b := fun b q10 q524 => (congrFun ef_54 b).trans ((up_ne (fun e9 => q10 (by rw [e9]; exact ko0))).trans (hfr0 b q10 q524))
              have hfo_55 : f_54 o0 = .inr (10, [.ref a_2, .int x_52, .int v_4]) := by rw [ef_54]; exact up_self
              exact W.vret hx hb hr (fun t ht hW => ⟨⟨f_54, rfl, ⟨hG, hfr0⟩, by rw [ht]; exact hP, va_K.moved hW.alike hK, pl_in hD⟩, hS.F ht⟩) hS.2.2 dX10_add_117
            · skip
              rw [← Int32.toInt_inj, ti_200] at c_39
              refine lv_aload_n hx hb dX10_add_73 rfl (lv_at hl 2 rfl) ?_
              refine lv_iconst (v := 1) hx hb dX10_add_74 (by decide) ?_
              refine tk_putP (D := (dC, dI)) (ci := 10) (v := .int 1) (ty := .boolean) (C := RX10) (T := TX10) (N := 3) hx hb hU inlX10 tyX10 tyX10_ok nmX10 hown hK hP hD hS mo0 hfo_1 rfl 2 (by decide) (hU _ wd_561) (fun _ h9 => h9) rfl (by decide +kernel) rfl rfl (Nat.le_of_ble_eq_true rfl) dX10_add_75 (fun H locs hP hD hS => ?_)
              obtain ⟨f_57, ef_57⟩ : ∃ y : Nat → va_E, y = va_up f o0 (.inr (10, [.ref a_2, .int v_3, .int 1])) := ⟨_, rfl⟩
              have hP : va_P (dC, dI) vwCl (va_pl L f_57) H := by rw [ef_57]; exact hP
              have hD : va_D (fun q => q ∈ L) (va_pl L f_57) := by rw [ef_57]; exact hD
              have hG : GI (okc cI cL cZ cR cG cH L kd) kd L f_57 := by rw [ef_57]; exact hG.set o0 (mk_10 ko0 ⟨a_2, v_3, 1, rfl, ⟨ma_2, ka_2⟩, (by constructor <;> omega), (by decide)⟩)
              have hfo_58 : f_57 a_2 = .inl (cI, 200, .inl g_36) := by rw [ef_57, up_ne (kd_ne ko0 ka_2 (by decide))]; exact hfo_35
              have hfr0 : ∀ b, kd b ≠ 10 → kd b ≠ 524 → f_57 b = f b := fun b q10 q524 => (congrFun ef_57 b).trans ((up_ne (fun e9 => q10 (by rw [e9]; exact ko0))).trans (hfr0 b q10 q524))
              have hfo_59 : f_57 o0 = .inr (10, [.ref a_2, .int v_3, .int 1]) := by rw [ef_57]; exact up_self
              exact W.vret hx hb hr (fun t ht hW => ⟨⟨f_57, rfl, ⟨hG, hfr0⟩, by rw [ht]; exact hP, va_K.moved hW.alike hK, pl_in hD⟩, hS.F ht⟩) hS.2.2 dX10_add_78
          · skip
            rw [← Int32.toInt_inj] at c_38
            exact W.vret hx hb hr (fun t ht hW => ⟨⟨f, rfl, ⟨hG, hfr0⟩, by rw [ht]; exact hP, va_K.moved hW.alike hK, pl_in hD⟩, hS.F ht⟩) hS.2.2 dX10_add_62
      · skip
        rw [Int32.le_iff_toInt_le] at c_11
        refine lv_iload_n hx hb dX10_add_12 rfl (lv_at hl 1 rfl) ?_
        refine lv_iload_n hx hb dX10_add_13 rfl (lv_at hl 0 rfl) ?_
        refine lv_iadd hx hb dX10_add_14 ?_
        refine lv_topi (fun x_60 ex_60 => ?_)
        have hx_60 : x_60.toInt = y_10.toInt + y_9.toInt := by rw [ex_60, ad_I (by omega) (by omega)]
        have bx_60 : (1 ≤ x_60.toInt ∧ x_60.toInt ≤ 399) := by constructor <;> omega
        refine lv_iconst (v := 2) hx hb dX10_add_15 (by decide) ?_
        refine lv_idiv hx hb dX10_add_16 (by decide) ?_
        refine lv_topi (fun x_61 ex_61 => ?_)
        have hx_61 : x_61.toInt = x_60.toInt / 2 := by rw [ex_61, dv_I (by omega) (by rw [ti_2]; omega), ti_2]
        have bx_61 : (0 ≤ x_61.toInt ∧ x_61.toInt ≤ 199) := by constructor <;> omega
        refine lv_istore (lv' := [(4, .int x_61), (3, .int y_9), (2, .int y_10), (0, .ref o0), (1, .int p1)]) hx hb dX10_add_17 hl (by decide) rfl (fun ls hl => ?_)
        refine lv_aload_n hx hb dX10_add_19 rfl (lv_at hl 3 rfl) ?_
        refine tk_getP (D := (dC, dI)) (ci := 10) (v := .ref a_2) (C := RX10) (T := TX10) (N := 3) hx hb hU inlX10 hown hK hP mo0 hfo_1 rfl 0 (by decide) (hU _ wd_116) (fun _ h9 => h9) rfl dX10_add_20 ?_
        refine lv_iload hx hb dX10_add_23 (lv_at hl 0 rfl) ?_
        obtain ⟨g_63, hfo_62, hbg_63⟩ := un_524 (hG _ ma_2) ka_2
        refine tk_ildP hx hb hK hP 0 ma_2 hfo_62 rfl (vp_in_iff.mpr (by constructor <;> omega)) dX10_add_25 ?_
        refine lv_topi (fun x_64 ex_64 => ?_)
        have bx_64 : ((-2147483648) ≤ x_64.toInt ∧ x_64.toInt ≤ 2147483647) := ⟨i32_lo _, i32_hi _⟩
        refine lv_iload_n hx hb dX10_add_26 rfl (lv_at hl 4 rfl) ?_
        refine lv_icmp_ge (tgt := 38) hx hb dX10_add_27 (by decide) (fun c_65 => ?_) (fun c_65 => ?_)
        · skip
          rw [Int32.le_iff_toInt_le] at c_65
          refine lv_iload hx hb dX10_add_38 (lv_at hl 0 rfl) ?_
          refine lv_istore_n (lv' := [(3, .int x_61), (4, .int x_61), (2, .int y_10), (0, .ref o0), (1, .int p1)]) hx hb dX10_add_40 rfl hl (by decide) rfl (fun ls hl => ?_)
          refine lv_goto (tgt := 7) hx hb dX10_add_41 (by decide) ?_
          exact ih_hloop_8 x_61 (by constructor <;> omega) y_10 (by constructor <;> omega) (by omega) (by omega) (by omega) ls (lv_sub hl [0, 2, 3, 4] rfl)
        · skip
          rw [Int32.le_iff_toInt_le] at c_65
          refine lv_iload hx hb dX10_add_30 (lv_at hl 0 rfl) ?_
          refine lv_iconst (v := 1) hx hb dX10_add_32 (by decide) ?_
          refine lv_iadd hx hb dX10_add_33 ?_
          refine lv_topi (fun x_66 ex_66 => ?_)
          have hx_66 : x_66.toInt = x_61.toInt + 1 := by rw [ex_66, ad_I (by rw [ti_1]; omega) (by rw [ti_1]; omega), ti_1]
          have bx_66 : (1 ≤ x_66.toInt ∧ x_66.toInt ≤ 200) := by constructor <;> omega
          refine lv_istore_n (lv' := [(2, .int x_66), (4, .int x_61), (3, .int y_9), (0, .ref o0), (1, .int p1)]) hx hb dX10_add_34 rfl hl (by decide) rfl (fun ls hl => ?_)
          refine lv_goto (tgt := 41) hx hb dX10_add_35 (by decide) ?_
          refine lv_goto (tgt := 7) hx hb dX10_add_41 (by decide) ?_
          exact ih_hloop_8 y_9 (by constructor <;> omega) x_66 (by constructor <;> omega) (by omega) (by omega) (by omega) ls (lv_sub hl [2, 0, 3, 4] rfl)
  exact hloop_8 201 v_3 (by constructor <;> omega) 0 (by decide) (by (try rw [ti_0]) <;> omega) (by (try rw [ti_0]) <;> omega) (by (try rw [ti_0]) <;> omega) ls hl
set_option maxHeartbeats 8000000 in
set_option maxRecDepth 100000 in
theorem s_X11_emptyTape_k11 (l : Launch) (D : va_G) (cI cL cZ cR cG cH : ClassId) (Z : zT) (kd : Nat → Nat) (L : List Nat) (f : Nat → va_E) (hG : GI (okc cI cL cZ cR cG cH L kd) kd L f) (o0 : Nat) (mo0 : o0 ∈ L) (ko0 : kd o0 = 11) : mPI l D cI cL cZ cR cG cH Z yX11_emptyTape cX11_emptyTape 2 (some .int) 0 0 [.ref o0] L f (fun (r : Int32) (f9 : Nat → va_E) => GI (okc cI cL cZ cR cG cH L kd) kd L f9 ∧ (0 ≤ r.toInt ∧ r.toInt ≤ 600) ∧ (∀ b, kd b ≠ 11 → f9 b = f b) ∧ (∀ b, kd b = 11 → fldI (f9 b) 8 = fldI (f b) 8) ∧ (∀ b, kd b = 11 → fldR (f9 b) 2 = fldR (f b) 2) ∧ (∀ b, kd b = 11 → fldR (f9 b) 3 = fldR (f b) 3) ∧ (∀ b, kd b = 11 → fldR (f9 b) 5 = fldR (f b) 5) ∧ (∀ b, kd b = 11 → fldR (f9 b) 6 = fldR (f b) 6) ∧ (∀ b, kd b = 11 → fldR (f9 b) 7 = fldR (f b) 7) ∧ (∀ b, kd b = 11 → fldR (f9 b) 9 = fldR (f b) 9) ∧ (∀ b, kd b = 11 → fldR (f9 b) 10 = fldR (f b) 10) ∧ (∀ b, kd b = 11 → fldR (f9 b) 16 = fldR (f b) 16) ∧ (∀ (w1 z1 : Int32), fldI (f o0) 1 = some w1 → fldI (f9 o0) 1 = some z1 → z1.toInt = 0)) := by
  obtain ⟨dC, dI⟩ := D
  refine Met.ofW (cc := cX11_emptyTape) (maxL := 2) (ret := (some .int)) (by decide) rfl ?_
  intro p e s m args below meth c s₁ B hml hv
  obtain ⟨rfl, hP, hK, hD0, hN, hZ⟩ := hv
  have hx := B.exec
  have hb := B.bytes
  have hr := B.returns
  have hU : ∀ w ∈ wsU, w.before _ s = true := fun w h => atoms_spec (ws := wU yX11_emptyTape cX11_emptyTape 2 (some .int)) B.pre w (List.mem_cons_of_mem _ h)
  have hown : s.vm.findClass RX11 = some m.cls := findClass_of_methodNamed B.named
  have hlocks := B.notSynchronized
  have hD := pl_in hD0
  have hS : va_S (fun q => q ∈ L) s.heap s.heap [] := va_S.rf
  have hl := lv_entry ([.ref o0]) (n := 2) (Nat.le_of_ble_eq_true rfl)
  rw [lg_entry_eq]
  generalize (lg_sl ([.ref o0]) ++ List.replicate (2 - (lg_sl ([.ref o0])).length) Slot.unset).toArray = ls at hl ⊢
  have hl : lv_has ls 2 [(0, .ref o0)] := hl
  have hfr0 : ∀ b, kd b ≠ 11 → f b = f b := fun _ _ => rfl
  have hfr11_8 : ∀ b, kd b = 11 → fldI (f b) 8 = fldI (f b) 8 := fun _ _ => rfl
  have hrr11_2 : ∀ b, kd b = 11 → fldR (f b) 2 = fldR (f b) 2 := fun _ _ => rfl
  have hrr11_3 : ∀ b, kd b = 11 → fldR (f b) 3 = fldR (f b) 3 := fun _ _ => rfl
  have hrr11_5 : ∀ b, kd b = 11 → fldR (f b) 5 = fldR (f b) 5 := fun _ _ => rfl
  have hrr11_6 : ∀ b, kd b = 11 → fldR (f b) 6 = fldR (f b) 6 := fun _ _ => rfl
  have hrr11_7 : ∀ b, kd b = 11 → fldR (f b) 7 = fldR (f b) 7 := fun _ _ => rfl
  have hrr11_9 : ∀ b, kd b = 11 → fldR (f b) 9 = fldR (f b) 9 := fun _ _ => rfl
  have hrr11_10 : ∀ b, kd b = 11 → fldR (f b) 10 = fldR (f b) 10 := fun _ _ => rfl
  have hrr11_16 : ∀ b, kd b = 11 → fldR (f b) 16 = fldR (f b) 16 := fun _ _ => rfl
  obtain ⟨a_2, v_3, a_4, a_5, a_6, a_7, a_8, a_9, v_10, a_11, a_12, a_13, v_14, v_15, a_16, v_17, a_18, a_19, v_20, hfo_1, ⟨ma_2, ka_2⟩, bv_3, ⟨ma_4, ka_4⟩, ⟨ma_5, ka_5⟩, ⟨ma_6, ka_6⟩, ⟨ma_7, ka_7⟩, ⟨ma_8, ka_8⟩, ⟨ma_9, ka_9⟩, bv_10, ⟨ma_11, ka_11⟩, ⟨ma_12, ka_12⟩, ⟨ma_13, ka_13⟩, bv_14, ⟨ma_16, ka_16⟩, bv_17, ⟨ma_18, ka_18⟩, ⟨ma_19, ka_19⟩⟩ := un_11 (hG _ mo0) ko0
  have bv_15 : ((-2147483648) ≤ v_15.toInt ∧ v_15.toInt ≤ 2147483647) := ⟨i32_lo _, i32_hi _⟩
  have bv_20 : ((-2147483648) ≤ v_20.toInt ∧ v_20.toInt ≤ 2147483647) := ⟨i32_lo _, i32_hi _⟩
  refine lv_aload_n hx hb dX11_emptyTape_0 rfl (lv_at hl 0 rfl) ?_
  refine tk_getP (D := (dC, dI)) (ci := 11) (v := .int v_3) (C := RX11) (T := TX11) (N := 19) hx hb hU inlX11 hown hK hP mo0 hfo_1 rfl 1 (by decide) (hU _ wd_209) (fun _ h9 => h9) rfl dX11_emptyTape_1 ?_
  refine lv_istore_n (lv' := [(1, .int v_3), (0, .ref o0)]) hx hb dX11_emptyTape_4 rfl hl (by decide) rfl (fun ls hl => ?_)
  refine lv_aload_n hx hb dX11_emptyTape_5 rfl (lv_at hl 1 rfl) ?_
  refine lv_iconst (v := 0) hx hb dX11_emptyTape_6 (by decide) ?_
  refine tk_putP (D := (dC, dI)) (ci := 11) (v := .int 0) (ty := .int) (C := RX11) (T := TX11) (N := 19) hx hb hU inlX11 tyX11 tyX11_ok nmX11 hown hK hP hD hS mo0 hfo_1 rfl 1 (by decide) (hU _ wd_209) (fun _ h9 => h9) rfl (by decide +kernel) rfl rfl (Nat.le_of_ble_eq_true rfl) dX11_emptyTape_7 (fun H locs hP hD hS => ?_)
  obtain ⟨f_22, ef_22⟩ : ∃ y : Nat → va_E, y = va_up f o0 (.inr (11, [.ref a_2, .int 0, .ref a_4, .ref a_5, .ref a_6, .ref a_7, .ref a_8, .ref a_9, .int v_10, .ref a_11, .ref a_12, .ref a_13, .int v_14, .int v_15, .ref a_16, .int v_17, .ref a_18, .ref a_19, .int v_20])) := ⟨_, rfl⟩
  have hP : va_P (dC, dI) vwCl (va_pl L f_22) H := by rw [ef_22]; exact hP
  have hD : va_D (fun q => q ∈ L) (va_pl L f_22) := by rw [ef_22]; exact hD
  have hG : GI (okc cI cL cZ cR cG cH L kd) kd L f_22 := by rw [ef_22]; exact hG.set o0 (mk_11 ko0 ⟨a_2, 0, a_4, a_5, a_6, a_7, a_8, a_9, v_10, a_11, a_12, a_13, v_14, v_15, a_16, v_17, a_18, a_19, v_20, rfl, ⟨ma_2, ka_2⟩, (by decide), ⟨ma_4, ka_4⟩, ⟨ma_5, ka_5⟩, ⟨ma_6, ka_6⟩, ⟨ma_7, ka_7⟩, ⟨ma_8, ka_8⟩, ⟨ma_9, ka_9⟩, (by constructor <;> omega), ⟨ma_11, ka_11⟩, ⟨ma_12, ka_12⟩, ⟨ma_13, ka_13⟩, (by constructor <;> omega), ⟨ma_16, ka_16⟩, (by constructor <;> omega), ⟨ma_18, ka_18⟩, ⟨ma_19, ka_19⟩⟩)
  have hfr0 : ∀ b, kd b ≠ 11 → f_22 b = f b := fun b q11 => (congrFun ef_22 b).trans ((up_ne (fun e9 => q11 (by rw [e9]; exact ko0))).trans (hfr0 b q11))
  have hfr11_8 : ∀ b, kd b = 11 → fldI (f_22 b) 8 = fldI (f b) 8 := fun b kb => ((congrArg (fun x => fldI x 8) (congrFun ef_22 b)).trans (fk_up (by rw [hfo_1]; rfl) b)).trans (hfr11_8 b kb)
  have hrr11_2 : ∀ b, kd b = 11 → fldR (f_22 b) 2 = fldR (f b) 2 := fun b kb => ((congrArg (fun x => fldR x 2) (congrFun ef_22 b)).trans (fr_up (by rw [hfo_1]; rfl) b)).trans (hrr11_2 b kb)
  have hrr11_3 : ∀ b, kd b = 11 → fldR (f_22 b) 3 = fldR (f b) 3 := fun b kb => ((congrArg (fun x => fldR x 3) (congrFun ef_22 b)).trans (fr_up (by rw [hfo_1]; rfl) b)).trans (hrr11_3 b kb)
  have hrr11_5 : ∀ b, kd b = 11 → fldR (f_22 b) 5 = fldR (f b) 5 := fun b kb => ((congrArg (fun x => fldR x 5) (congrFun ef_22 b)).trans (fr_up (by rw [hfo_1]; rfl) b)).trans (hrr11_5 b kb)
  have hrr11_6 : ∀ b, kd b = 11 → fldR (f_22 b) 6 = fldR (f b) 6 := fun b kb => ((congrArg (fun x => fldR x 6) (congrFun ef_22 b)).trans (fr_up (by rw [hfo_1]; rfl) b)).trans (hrr11_6 b kb)
  have hrr11_7 : ∀ b, kd b = 11 → fldR (f_22 b) 7 = fldR (f b) 7 := fun b kb => ((congrArg (fun x => fldR x 7) (congrFun ef_22 b)).trans (fr_up (by rw [hfo_1]; rfl) b)).trans (hrr11_7 b kb)
  have hrr11_9 : ∀ b, kd b = 11 → fldR (f_22 b) 9 = fldR (f b) 9 := fun b kb => ((congrArg (fun x => fldR x 9) (congrFun ef_22 b)).trans (fr_up (by rw [hfo_1]; rfl) b)).trans (hrr11_9 b kb)
  have hrr11_10 : ∀ b, kd b = 11 → fldR (f_22 b) 10 = fldR (f b) 10 := fun b kb => ((congrArg (fun x => fldR x 10) (congrFun ef_22 b)).trans (fr_up (by rw [hfo_1]; rfl) b)).trans (hrr11_10 b kb)
  have hrr11_16 : ∀ b, kd b = 11 → fldR (f_22 b) 16 = fldR (f b) 16 := fun b kb => ((congrArg (fun x => fldR x 16) (congrFun ef_22 b)).trans (fr_up (by rw [hfo_1]; rfl) b)).trans (hrr11_16 b kb)
  have hfo_23 : f_22 o0 = .inr (11, [.ref a_2, .int 0, .ref a_4, .ref a_5, .ref a_6, .ref a_7, .ref a_8, .ref a_9, .int v_10, .ref a_11, .ref a_12, .ref a_13, .int v_14, .int v_15, .ref a_16, .int v_17, .ref a_18, .ref a_19, .int v_20]) := by rw [ef_22]; exact up_self
  refine lv_iload_n hx hb dX11_emptyTape_10 rfl (lv_at hl 0 rfl) ?_
  exact W.iret (v := v_3) hx hb hr (fun t ht hW => ⟨⟨v_3, f_22, rfl, ⟨hG, (by constructor <;> omega), hfr0, hfr11_8, hrr11_2, hrr11_3, hrr11_5, hrr11_6, hrr11_7, hrr11_9, hrr11_10, hrr11_16, (by intro w1 z1 e1 d1; rw [hfo_1] at e1; rw [hfo_23] at d1; obtain rfl := Option.some.inj e1; obtain rfl := Option.some.inj d1; (try rw [ti_0]) <;> omega)⟩, by rw [ht]; exact hP, va_K.moved hW.alike hK, pl_in hD⟩, hS.F ht⟩) hS.2.2 dX11_emptyTape_11
set_option maxHeartbeats 8000000 in
set_option maxRecDepth 100000 in
theorem s_X11_isSet_k11 (l : Launch) (D : va_G) (cI cL cZ cR cG cH : ClassId) (Z : zT) (kd : Nat → Nat) (L : List Nat) (f : Nat → va_E) (hG : GI (okc cI cL cZ cR cG cH L kd) kd L f) (o0 : Nat) (mo0 : o0 ∈ L) (ko0 : kd o0 = 11) (p1 : Int32) : mPI l D cI cL cZ cR cG cH Z yX11_isSet cX11_isSet 2 (some .boolean) 0 0 [.ref o0, .int p1] L f (fun (r : Int32) (f9 : Nat → va_E) => f = f9 ∧ (0 ≤ r.toInt ∧ r.toInt ≤ 1) ∧ (r.toInt = 0 ∨ (0 ≤ p1.toInt ∧ p1.toInt ≤ 255))) := by
  obtain ⟨dC, dI⟩ := D
  refine Met.ofW (cc := cX11_isSet) (maxL := 2) (ret := (some .boolean)) (by decide) rfl ?_
  intro p e s m args below meth c s₁ B hml hv
  obtain ⟨rfl, hP, hK, hD0, hN, hZ⟩ := hv
  have hx := B.exec
  have hb := B.bytes
  have hr := B.returns
  have hU : ∀ w ∈ wsU, w.before _ s = true := fun w h => atoms_spec (ws := wU yX11_isSet cX11_isSet 2 (some .boolean)) B.pre w (List.mem_cons_of_mem _ h)
  have hown : s.vm.findClass RX11 = some m.cls := findClass_of_methodNamed B.named
  have hlocks := B.notSynchronized
  have hD := pl_in hD0
  have hS : va_S (fun q => q ∈ L) s.heap s.heap [] := va_S.rf
  have hl := lv_entry ([.ref o0, .int p1]) (n := 2) (Nat.le_of_ble_eq_true rfl)
  rw [lg_entry_eq]
  generalize (lg_sl ([.ref o0, .int p1]) ++ List.replicate (2 - (lg_sl ([.ref o0, .int p1])).length) Slot.unset).toArray = ls at hl ⊢
  have hl : lv_has ls 2 [(0, .ref o0), (1, .int p1)] := hl
  have bp1 : ((-2147483648) ≤ p1.toInt ∧ p1.toInt ≤ 2147483647) := ⟨i32_lo _, i32_hi _⟩
  refine lv_iload_n hx hb dX11_isSet_0 rfl (lv_at hl 1 rfl) ?_
  refine lv_if_lt (tgt := 21) hx hb dX11_isSet_1 (by decide) (fun c_1 => ?_) (fun c_1 => ?_)
  · skip
    rw [Int32.lt_iff_toInt_lt, ti_0] at c_1
    refine lv_iconst (v := 0) hx hb dX11_isSet_21 (by decide) ?_
    exact W.zret (v := 0) (ty := .boolean) hx hb hr rfl (fun t ht hW => ⟨⟨0, f, rfl, ⟨rfl, (by decide), (by (try rw [ti_0]) <;> omega)⟩, by rw [ht]; exact hP, va_K.moved hW.alike hK, pl_in hD⟩, hS.F ht⟩) hS.2.2 dX11_isSet_22
  · skip
    rw [Int32.lt_iff_toInt_lt, ti_0] at c_1
    refine lv_iload_n hx hb dX11_isSet_4 rfl (lv_at hl 1 rfl) ?_
    refine lv_iconst (v := 1) hx hb dX11_isSet_5 (by decide) ?_
    refine lv_aload_n hx hb dX11_isSet_6 rfl (lv_at hl 0 rfl) ?_
    obtain ⟨a_3, v_4, a_5, a_6, a_7, a_8, a_9, a_10, v_11, a_12, a_13, a_14, v_15, v_16, a_17, v_18, a_19, a_20, v_21, hfo_2, ⟨ma_3, ka_3⟩, bv_4, ⟨ma_5, ka_5⟩, ⟨ma_6, ka_6⟩, ⟨ma_7, ka_7⟩, ⟨ma_8, ka_8⟩, ⟨ma_9, ka_9⟩, ⟨ma_10, ka_10⟩, bv_11, ⟨ma_12, ka_12⟩, ⟨ma_13, ka_13⟩, ⟨ma_14, ka_14⟩, bv_15, ⟨ma_17, ka_17⟩, bv_18, ⟨ma_19, ka_19⟩, ⟨ma_20, ka_20⟩⟩ := un_11 (hG _ mo0) ko0
    have bv_16 : ((-2147483648) ≤ v_16.toInt ∧ v_16.toInt ≤ 2147483647) := ⟨i32_lo _, i32_hi _⟩
    have bv_21 : ((-2147483648) ≤ v_21.toInt ∧ v_21.toInt ≤ 2147483647) := ⟨i32_lo _, i32_hi _⟩
    refine tk_getP (D := (dC, dI)) (ci := 11) (v := .ref a_6) (C := RX11) (T := TX11) (N := 19) hx hb hU inlX11 hown hK hP mo0 hfo_2 rfl 3 (by decide) (hU _ wd_19) (fun _ h9 => h9) rfl dX11_isSet_7 ?_
    obtain ⟨a_23, v_24, a_25, a_26, a_27, a_28, v_29, a_30, a_31, a_32, a_33, a_34, v_35, a_36, a_37, a_38, hfo_22, ⟨ma_23, ka_23⟩, bv_24, ⟨ma_25, ka_25⟩, ⟨ma_26, ka_26⟩, ⟨ma_27, ka_27⟩, ⟨ma_28, ka_28⟩, bv_29, ⟨ma_30, ka_30⟩, ⟨ma_31, ka_31⟩, ⟨ma_32, ka_32⟩, ⟨ma_33, ka_33⟩, ⟨ma_34, ka_34⟩, bv_35, ⟨ma_36, ka_36⟩, ⟨ma_37, ka_37⟩, ⟨ma_38, ka_38⟩⟩ := un_7 (hG _ ma_6) ka_6
    refine tk_getP (D := (dC, dI)) (ci := 7) (v := .int v_35) (C := RX7) (T := TX7) (N := 16) hx hb hU inlX7 hown hK hP ma_6 hfo_22 rfl 12 (by decide) (hU _ wd_235) (fun _ h9 => h9) rfl dX11_isSet_10 ?_
    refine lv_ishl hx hb dX11_isSet_13 ?_
    refine lv_topi (fun x_39 ex_39 => ?_)
    have bx_39 : (1 ≤ x_39.toInt ∧ x_39.toInt ≤ 256) := by rw [ex_39]; exact sh_8 (by constructor <;> omega)
    refine lv_icmp_ge (tgt := 21) hx hb dX11_isSet_14 (by decide) (fun c_40 => ?_) (fun c_40 => ?_)
    · skip
      rw [Int32.le_iff_toInt_le] at c_40
      refine lv_iconst (v := 0) hx hb dX11_isSet_21 (by decide) ?_
      exact W.zret (v := 0) (ty := .boolean) hx hb hr rfl (fun t ht hW => ⟨⟨0, f, rfl, ⟨rfl, (by decide), (by (try rw [ti_0]) <;> omega)⟩, by rw [ht]; exact hP, va_K.moved hW.alike hK, pl_in hD⟩, hS.F ht⟩) hS.2.2 dX11_isSet_22
    · skip
      rw [Int32.le_iff_toInt_le] at c_40
      refine lv_iconst (v := 1) hx hb dX11_isSet_17 (by decide) ?_
      refine lv_goto (tgt := 22) hx hb dX11_isSet_18 (by decide) ?_
      exact W.zret (v := 1) (ty := .boolean) hx hb hr rfl (fun t ht hW => ⟨⟨1, f, rfl, ⟨rfl, (by decide), (by (try rw [ti_1]) <;> omega)⟩, by rw [ht]; exact hP, va_K.moved hW.alike hK, pl_in hD⟩, hS.F ht⟩) hS.2.2 dX11_isSet_22
set_option maxHeartbeats 8000000 in
set_option maxRecDepth 100000 in
theorem s_X11_isRule_k11 (l : Launch) (D : va_G) (cI cL cZ cR cG cH : ClassId) (Z : zT) (kd : Nat → Nat) (L : List Nat) (f : Nat → va_E) (hG : GI (okc cI cL cZ cR cG cH L kd) kd L f) (o0 : Nat) (mo0 : o0 ∈ L) (ko0 : kd o0 = 11) (p1 : Int32) : mPI l D cI cL cZ cR cG cH Z yX11_isRule cX11_isRule 2 (some .boolean) 0 0 [.ref o0, .int p1] L f (fun (r : Int32) (f9 : Nat → va_E) => f = f9 ∧ (0 ≤ r.toInt ∧ r.toInt ≤ 1) ∧ (r.toInt = 0 ∨ (0 ≤ p1.toInt ∧ p1.toInt ≤ 7))) := by
  obtain ⟨dC, dI⟩ := D
  refine Met.ofW (cc := cX11_isRule) (maxL := 2) (ret := (some .boolean)) (by decide) rfl ?_
  intro p e s m args below meth c s₁ B hml hv
  obtain ⟨rfl, hP, hK, hD0, hN, hZ⟩ := hv
  have hx := B.exec
  have hb := B.bytes
  have hr := B.returns
  have hU : ∀ w ∈ wsU, w.before _ s = true := fun w h => atoms_spec (ws := wU yX11_isRule cX11_isRule 2 (some .boolean)) B.pre w (List.mem_cons_of_mem _ h)
  have hown : s.vm.findClass RX11 = some m.cls := findClass_of_methodNamed B.named
  have hlocks := B.notSynchronized
  have hD := pl_in hD0
  have hS : va_S (fun q => q ∈ L) s.heap s.heap [] := va_S.rf
  have hl := lv_entry ([.ref o0, .int p1]) (n := 2) (Nat.le_of_ble_eq_true rfl)
  rw [lg_entry_eq]
  generalize (lg_sl ([.ref o0, .int p1]) ++ List.replicate (2 - (lg_sl ([.ref o0, .int p1])).length) Slot.unset).toArray = ls at hl ⊢
  have hl : lv_has ls 2 [(0, .ref o0), (1, .int p1)] := hl
  have bp1 : ((-2147483648) ≤ p1.toInt ∧ p1.toInt ≤ 2147483647) := ⟨i32_lo _, i32_hi _⟩
  refine lv_iload_n hx hb dX11_isRule_0 rfl (lv_at hl 1 rfl) ?_
  refine lv_if_lt (tgt := 19) hx hb dX11_isRule_1 (by decide) (fun c_1 => ?_) (fun c_1 => ?_)
  · skip
    rw [Int32.lt_iff_toInt_lt, ti_0] at c_1
    refine lv_iconst (v := 0) hx hb dX11_isRule_19 (by decide) ?_
    exact W.zret (v := 0) (ty := .boolean) hx hb hr rfl (fun t ht hW => ⟨⟨0, f, rfl, ⟨rfl, (by decide), (by (try rw [ti_0]) <;> omega)⟩, by rw [ht]; exact hP, va_K.moved hW.alike hK, pl_in hD⟩, hS.F ht⟩) hS.2.2 dX11_isRule_20
  · skip
    rw [Int32.lt_iff_toInt_lt, ti_0] at c_1
    refine lv_iload_n hx hb dX11_isRule_4 rfl (lv_at hl 1 rfl) ?_
    refine lv_aload_n hx hb dX11_isRule_5 rfl (lv_at hl 0 rfl) ?_
    obtain ⟨a_3, v_4, a_5, a_6, a_7, a_8, a_9, a_10, v_11, a_12, a_13, a_14, v_15, v_16, a_17, v_18, a_19, a_20, v_21, hfo_2, ⟨ma_3, ka_3⟩, bv_4, ⟨ma_5, ka_5⟩, ⟨ma_6, ka_6⟩, ⟨ma_7, ka_7⟩, ⟨ma_8, ka_8⟩, ⟨ma_9, ka_9⟩, ⟨ma_10, ka_10⟩, bv_11, ⟨ma_12, ka_12⟩, ⟨ma_13, ka_13⟩, ⟨ma_14, ka_14⟩, bv_15, ⟨ma_17, ka_17⟩, bv_18, ⟨ma_19, ka_19⟩, ⟨ma_20, ka_20⟩⟩ := un_11 (hG _ mo0) ko0
    have bv_16 : ((-2147483648) ≤ v_16.toInt ∧ v_16.toInt ≤ 2147483647) := ⟨i32_lo _, i32_hi _⟩
    have bv_21 : ((-2147483648) ≤ v_21.toInt ∧ v_21.toInt ≤ 2147483647) := ⟨i32_lo _, i32_hi _⟩
    refine tk_getP (D := (dC, dI)) (ci := 11) (v := .ref a_6) (C := RX11) (T := TX11) (N := 19) hx hb hU inlX11 hown hK hP mo0 hfo_2 rfl 3 (by decide) (hU _ wd_19) (fun _ h9 => h9) rfl dX11_isRule_6 ?_
    obtain ⟨a_23, v_24, a_25, a_26, a_27, a_28, v_29, a_30, a_31, a_32, a_33, a_34, v_35, a_36, a_37, a_38, hfo_22, ⟨ma_23, ka_23⟩, bv_24, ⟨ma_25, ka_25⟩, ⟨ma_26, ka_26⟩, ⟨ma_27, ka_27⟩, ⟨ma_28, ka_28⟩, bv_29, ⟨ma_30, ka_30⟩, ⟨ma_31, ka_31⟩, ⟨ma_32, ka_32⟩, ⟨ma_33, ka_33⟩, ⟨ma_34, ka_34⟩, bv_35, ⟨ma_36, ka_36⟩, ⟨ma_37, ka_37⟩, ⟨ma_38, ka_38⟩⟩ := un_7 (hG _ ma_6) ka_6
    refine tk_getP (D := (dC, dI)) (ci := 7) (v := .int v_35) (C := RX7) (T := TX7) (N := 16) hx hb hU inlX7 hown hK hP ma_6 hfo_22 rfl 12 (by decide) (hU _ wd_235) (fun _ h9 => h9) rfl dX11_isRule_9 ?_
    refine lv_icmp_ge (tgt := 19) hx hb dX11_isRule_12 (by decide) (fun c_39 => ?_) (fun c_39 => ?_)
    · skip
      rw [Int32.le_iff_toInt_le] at c_39
      refine lv_iconst (v := 0) hx hb dX11_isRule_19 (by decide) ?_
      exact W.zret (v := 0) (ty := .boolean) hx hb hr rfl (fun t ht hW => ⟨⟨0, f, rfl, ⟨rfl, (by decide), (by (try rw [ti_0]) <;> omega)⟩, by rw [ht]; exact hP, va_K.moved hW.alike hK, pl_in hD⟩, hS.F ht⟩) hS.2.2 dX11_isRule_20
    · skip
      rw [Int32.le_iff_toInt_le] at c_39
      refine lv_iconst (v := 1) hx hb dX11_isRule_15 (by decide) ?_
      refine lv_goto (tgt := 20) hx hb dX11_isRule_16 (by decide) ?_
      exact W.zret (v := 1) (ty := .boolean) hx hb hr rfl (fun t ht hW => ⟨⟨1, f, rfl, ⟨rfl, (by decide), (by (try rw [ti_1]) <;> omega)⟩, by rw [ht]; exact hP, va_K.moved hW.alike hK, pl_in hD⟩, hS.F ht⟩) hS.2.2 dX11_isRule_20
set_option maxHeartbeats 8000000 in
set_option maxRecDepth 100000 in
theorem s_X11_end_k11 (l : Launch) (D : va_G) (cI cL cZ cR cG cH : ClassId) (Z : zT) (kd : Nat → Nat) (L : List Nat) (f : Nat → va_E) (hG : GI (okc cI cL cZ cR cG cH L kd) kd L f) (o0 : Nat) (mo0 : o0 ∈ L) (ko0 : kd o0 = 11) (p1 : Int32) : mPI l D cI cL cZ cR cG cH Z yX11_end cX11_end 2 (some .boolean) 0 0 [.ref o0, .int p1] L f (fun (r : Int32) (f9 : Nat → va_E) => GI (okc cI cL cZ cR cG cH L kd) kd L f9 ∧ (0 ≤ r.toInt ∧ r.toInt ≤ 1) ∧ (∀ b, kd b ≠ 11 → f9 b = f b) ∧ (∀ b, kd b = 11 → fldI (f9 b) 8 = fldI (f b) 8) ∧ (∀ b, kd b = 11 → fldR (f9 b) 2 = fldR (f b) 2) ∧ (∀ b, kd b = 11 → fldR (f9 b) 3 = fldR (f b) 3) ∧ (∀ b, kd b = 11 → fldR (f9 b) 5 = fldR (f b) 5) ∧ (∀ b, kd b = 11 → fldR (f9 b) 6 = fldR (f b) 6) ∧ (∀ b, kd b = 11 → fldR (f9 b) 7 = fldR (f b) 7) ∧ (∀ b, kd b = 11 → fldR (f9 b) 9 = fldR (f b) 9) ∧ (∀ b, kd b = 11 → fldR (f9 b) 10 = fldR (f b) 10) ∧ (∀ b, kd b = 11 → fldR (f9 b) 16 = fldR (f b) 16) ∧ (∀ (w1 z1 : Int32), fldI (f o0) 1 = some w1 → fldI (f9 o0) 1 = some z1 → (r.toInt = 1 ∧ 0 ≤ p1.toInt ∧ p1.toInt ≤ w1.toInt ∧ z1.toInt = p1.toInt) ∨ (r.toInt = 0 ∧ (p1.toInt < 0 ∨ w1.toInt < p1.toInt) ∧ z1.toInt = w1.toInt))) := by
  obtain ⟨dC, dI⟩ := D
  refine Met.ofW (cc := cX11_end) (maxL := 2) (ret := (some .boolean)) (by decide) rfl ?_
  intro p e s m args below meth c s₁ B hml hv
  obtain ⟨rfl, hP, hK, hD0, hN, hZ⟩ := hv
  have hx := B.exec
  have hb := B.bytes
  have hr := B.returns
  have hU : ∀ w ∈ wsU, w.before _ s = true := fun w h => atoms_spec (ws := wU yX11_end cX11_end 2 (some .boolean)) B.pre w (List.mem_cons_of_mem _ h)
  have hown : s.vm.findClass RX11 = some m.cls := findClass_of_methodNamed B.named
  have hlocks := B.notSynchronized
  have hD := pl_in hD0
  have hS : va_S (fun q => q ∈ L) s.heap s.heap [] := va_S.rf
  have hl := lv_entry ([.ref o0, .int p1]) (n := 2) (Nat.le_of_ble_eq_true rfl)
  rw [lg_entry_eq]
  generalize (lg_sl ([.ref o0, .int p1]) ++ List.replicate (2 - (lg_sl ([.ref o0, .int p1])).length) Slot.unset).toArray = ls at hl ⊢
  have hl : lv_has ls 2 [(0, .ref o0), (1, .int p1)] := hl
  have bp1 : ((-2147483648) ≤ p1.toInt ∧ p1.toInt ≤ 2147483647) := ⟨i32_lo _, i32_hi _⟩
  have hfr0 : ∀ b, kd b ≠ 11 → f b = f b := fun _ _ => rfl
  have hfr11_8 : ∀ b, kd b = 11 → fldI (f b) 8 = fldI (f b) 8 := fun _ _ => rfl
  have hrr11_2 : ∀ b, kd b = 11 → fldR (f b) 2 = fldR (f b) 2 := fun _ _ => rfl
  have hrr11_3 : ∀ b, kd b = 11 → fldR (f b) 3 = fldR (f b) 3 := fun _ _ => rfl
  have hrr11_5 : ∀ b, kd b = 11 → fldR (f b) 5 = fldR (f b) 5 := fun _ _ => rfl
  have hrr11_6 : ∀ b, kd b = 11 → fldR (f b) 6 = fldR (f b) 6 := fun _ _ => rfl
  have hrr11_7 : ∀ b, kd b = 11 → fldR (f b) 7 = fldR (f b) 7 := fun _ _ => rfl
  have hrr11_9 : ∀ b, kd b = 11 → fldR (f b) 9 = fldR (f b) 9 := fun _ _ => rfl
  have hrr11_10 : ∀ b, kd b = 11 → fldR (f b) 10 = fldR (f b) 10 := fun _ _ => rfl
  have hrr11_16 : ∀ b, kd b = 11 → fldR (f b) 16 = fldR (f b) 16 := fun _ _ => rfl
  obtain ⟨a_2, v_3, a_4, a_5, a_6, a_7, a_8, a_9, v_10, a_11, a_12, a_13, v_14, v_15, a_16, v_17, a_18, a_19, v_20, hfo_1, ⟨ma_2, ka_2⟩, bv_3, ⟨ma_4, ka_4⟩, ⟨ma_5, ka_5⟩, ⟨ma_6, ka_6⟩, ⟨ma_7, ka_7⟩, ⟨ma_8, ka_8⟩, ⟨ma_9, ka_9⟩, bv_10, ⟨ma_11, ka_11⟩, ⟨ma_12, ka_12⟩, ⟨ma_13, ka_13⟩, bv_14, ⟨ma_16, ka_16⟩, bv_17, ⟨ma_18, ka_18⟩, ⟨ma_19, ka_19⟩⟩ := un_11 (hG _ mo0) ko0
  have bv_15 : ((-2147483648) ≤ v_15.toInt ∧ v_15.toInt ≤ 2147483647) := ⟨i32_lo _, i32_hi _⟩
  have bv_20 : ((-2147483648) ≤ v_20.toInt ∧ v_20.toInt ≤ 2147483647) := ⟨i32_lo _, i32_hi _⟩
  refine lv_iload_n hx hb dX11_end_0 rfl (lv_at hl 1 rfl) ?_
  refine lv_if_lt (tgt := 12) hx hb dX11_end_1 (by decide) (fun c_21 => ?_) (fun c_21 => ?_)
  · skip
    rw [Int32.lt_iff_toInt_lt, ti_0] at c_21
    refine lv_iconst (v := 0) hx hb dX11_end_12 (by decide) ?_
    exact W.zret (v := 0) (ty := .boolean) hx hb hr rfl (fun t ht hW => ⟨⟨0, f, rfl, ⟨hG, (by decide), hfr0, hfr11_8, hrr11_2, hrr11_3, hrr11_5, hrr11_6, hrr11_7, hrr11_9, hrr11_10, hrr11_16, (by intro w1 z1 e1 d1; rw [hfo_1] at e1; rw [hfo_1] at d1; obtain rfl := Option.some.inj e1; obtain rfl := Option.some.inj d1; (try rw [ti_0]) <;> omega)⟩, by rw [ht]; exact hP, va_K.moved hW.alike hK, pl_in hD⟩, hS.F ht⟩) hS.2.2 dX11_end_13
  · skip
    rw [Int32.lt_iff_toInt_lt, ti_0] at c_21
    refine lv_iload_n hx hb dX11_end_4 rfl (lv_at hl 1 rfl) ?_
    refine lv_aload_n hx hb dX11_end_5 rfl (lv_at hl 0 rfl) ?_
    refine tk_getP (D := (dC, dI)) (ci := 11) (v := .int v_3) (C := RX11) (T := TX11) (N := 19) hx hb hU inlX11 hown hK hP mo0 hfo_1 rfl 1 (by decide) (hU _ wd_209) (fun _ h9 => h9) rfl dX11_end_6 ?_
    refine lv_icmp_le (tgt := 14) hx hb dX11_end_9 (by decide) (fun c_22 => ?_) (fun c_22 => ?_)
    · skip
      rw [Int32.le_iff_toInt_le] at c_22
      refine lv_aload_n hx hb dX11_end_14 rfl (lv_at hl 0 rfl) ?_
      refine lv_iload_n hx hb dX11_end_15 rfl (lv_at hl 1 rfl) ?_
      refine tk_putP (D := (dC, dI)) (ci := 11) (v := .int p1) (ty := .int) (C := RX11) (T := TX11) (N := 19) hx hb hU inlX11 tyX11 tyX11_ok nmX11 hown hK hP hD hS mo0 hfo_1 rfl 1 (by decide) (hU _ wd_209) (fun _ h9 => h9) rfl (by decide +kernel) rfl rfl (Nat.le_of_ble_eq_true rfl) dX11_end_16 (fun H locs hP hD hS => ?_)
      obtain ⟨f_24, ef_24⟩ : ∃ y : Nat → va_E, y = va_up f o0 (.inr (11, [.ref a_2, .int p1, .ref a_4, .ref a_5, .ref a_6, .ref a_7, .ref a_8, .ref a_9, .int v_10, .ref a_11, .ref a_12, .ref a_13, .int v_14, .int v_15, .ref a_16, .int v_17, .ref a_18, .ref a_19, .int v_20])) := ⟨_, rfl⟩
      have hP : va_P (dC, dI) vwCl (va_pl L f_24) H := by rw [ef_24]; exact hP
      have hD : va_D (fun q => q ∈ L) (va_pl L f_24) := by rw [ef_24]; exact hD
      have hG : GI (okc cI cL cZ cR cG cH L kd) kd L f_24 := by rw [ef_24]; exact hG.set o0 (mk_11 ko0 ⟨a_2, p1, a_4, a_5, a_6, a_7, a_8, a_9, v_10, a_11, a_12, a_13, v_14, v_15, a_16, v_17, a_18, a_19, v_20, rfl, ⟨ma_2, ka_2⟩, (by constructor <;> omega), ⟨ma_4, ka_4⟩, ⟨ma_5, ka_5⟩, ⟨ma_6, ka_6⟩, ⟨ma_7, ka_7⟩, ⟨ma_8, ka_8⟩, ⟨ma_9, ka_9⟩, (by constructor <;> omega), ⟨ma_11, ka_11⟩, ⟨ma_12, ka_12⟩, ⟨ma_13, ka_13⟩, (by constructor <;> omega), ⟨ma_16, ka_16⟩, (by constructor <;> omega), ⟨ma_18, ka_18⟩, ⟨ma_19, ka_19⟩⟩)
      have hfr0 : ∀ b, kd b ≠ 11 → f_24 b = f b := fun b q11 => (congrFun ef_24 b).trans ((up_ne (fun e9 => q11 (by rw [e9]; exact ko0))).trans (hfr0 b q11))
      have hfr11_8 : ∀ b, kd b = 11 → fldI (f_24 b) 8 = fldI (f b) 8 := fun b kb => ((congrArg (fun x => fldI x 8) (congrFun ef_24 b)).trans (fk_up (by rw [hfo_1]; rfl) b)).trans (hfr11_8 b kb)
      have hrr11_2 : ∀ b, kd b = 11 → fldR (f_24 b) 2 = fldR (f b) 2 := fun b kb => ((congrArg (fun x => fldR x 2) (congrFun ef_24 b)).trans (fr_up (by rw [hfo_1]; rfl) b)).trans (hrr11_2 b kb)
      have hrr11_3 : ∀ b, kd b = 11 → fldR (f_24 b) 3 = fldR (f b) 3 := fun b kb => ((congrArg (fun x => fldR x 3) (congrFun ef_24 b)).trans (fr_up (by rw [hfo_1]; rfl) b)).trans (hrr11_3 b kb)
      have hrr11_5 : ∀ b, kd b = 11 → fldR (f_24 b) 5 = fldR (f b) 5 := fun b kb => ((congrArg (fun x => fldR x 5) (congrFun ef_24 b)).trans (fr_up (by rw [hfo_1]; rfl) b)).trans (hrr11_5 b kb)
      have hrr11_6 : ∀ b, kd b = 11 → fldR (f_24 b) 6 = fldR (f b) 6 := fun b kb => ((congrArg (fun x => fldR x 6) (congrFun ef_24 b)).trans (fr_up (by rw [hfo_1]; rfl) b)).trans (hrr11_6 b kb)
      have hrr11_7 : ∀ b, kd b = 11 → fldR (f_24 b) 7 = fldR (f b) 7 := fun b kb => ((congrArg (fun x => fldR x 7) (congrFun ef_24 b)).trans (fr_up (by rw [hfo_1]; rfl) b)).trans (hrr11_7 b kb)
      have hrr11_9 : ∀ b, kd b = 11 → fldR (f_24 b) 9 = fldR (f b) 9 := fun b kb => ((congrArg (fun x => fldR x 9) (congrFun ef_24 b)).trans (fr_up (by rw [hfo_1]; rfl) b)).trans (hrr11_9 b kb)
      have hrr11_10 : ∀ b, kd b = 11 → fldR (f_24 b) 10 = fldR (f b) 10 := fun b kb => ((congrArg (fun x => fldR x 10) (congrFun ef_24 b)).trans (fr_up (by rw [hfo_1]; rfl) b)).trans (hrr11_10 b kb)
      have hrr11_16 : ∀ b, kd b = 11 → fldR (f_24 b) 16 = fldR (f b) 16 := fun b kb => ((congrArg (fun x => fldR x 16) (congrFun ef_24 b)).trans (fr_up (by rw [hfo_1]; rfl) b)).trans (hrr11_16 b kb)
      have hfo_25 : f_24 o0 = .inr (11, [.ref a_2, .int p1, .ref a_4, .ref a_5, .ref a_6, .ref a_7, .ref a_8, .ref a_9, .int v_10, .ref a_11, .ref a_12, .ref a_13, .int v_14, .int v_15, .ref a_16, .int v_17, .ref a_18, .ref a_19, .int v_20]) := by rw [ef_24]; exact up_self
      refine lv_iconst (v := 1) hx hb dX11_end_19 (by decide) ?_
      exact W.zret (v := 1) (ty := .boolean) hx hb hr rfl (fun t ht hW => ⟨⟨1, f_24, rfl, ⟨hG, (by decide), hfr0, hfr11_8, hrr11_2, hrr11_3, hrr11_5, hrr11_6, hrr11_7, hrr11_9, hrr11_10, hrr11_16, (by intro w1 z1 e1 d1; rw [hfo_1] at e1; rw [hfo_25] at d1; obtain rfl := Option.some.inj e1; obtain rfl := Option.some.inj d1; (try rw [ti_1]) <;> omega)⟩, by rw [ht]; exact hP, va_K.moved hW.alike hK, pl_in hD⟩, hS.F ht⟩) hS.2.2 dX11_end_20
    · skip
      rw [Int32.le_iff_toInt_le] at c_22
      refine lv_iconst (v := 0) hx hb dX11_end_12 (by decide) ?_
      exact W.zret (v := 0) (ty := .boolean) hx hb hr rfl (fun t ht hW => ⟨⟨0, f, rfl, ⟨hG, (by decide), hfr0, hfr11_8, hrr11_2, hrr11_3, hrr11_5, hrr11_6, hrr11_7, hrr11_9, hrr11_10, hrr11_16, (by intro w1 z1 e1 d1; rw [hfo_1] at e1; rw [hfo_1] at d1; obtain rfl := Option.some.inj e1; obtain rfl := Option.some.inj d1; (try rw [ti_0]) <;> omega)⟩, by rw [ht]; exact hP, va_K.moved hW.alike hK, pl_in hD⟩, hS.F ht⟩) hS.2.2 dX11_end_13
