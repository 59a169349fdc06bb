set_option maxHeartbeats 8000000 in
set_option maxRecDepth 100000 in
theorem s_X9_copyTo_k13_a505_n (l : Launch) (D : va_G) (cI cL cZ cR cG cH : ClassId) (Z : zT) (kd : Nat → Nat) (L : List Nat) (f : Nat → va_E) (hG : GI (okc cI cL cZ cR cG cH L kd) kd L f) (o0 : Nat) (mo0 : o0 ∈ L) (ko0 : kd o0 = 13) (p1 : Int32) (o2 : Nat) (mo2 : o2 ∈ L) (ko2 : kd o2 = 505) (p3 : Int32) (bp3 : (0 ≤ p3.toInt ∧ p3.toInt ≤ 12)) : mPI l D cI cL cZ cR cG cH Z yX9_copyTo cX9_copyTo 5 (some .int) 1 40 [.ref o0, .int p1, .ref o2, .int p3] L f (fun (r : Int32) (f9 : Nat → va_E) => GI (okc cI cL cZ cR cG cH L kd) kd L f9 ∧ (0 ≤ r.toInt ∧ r.toInt ≤ 12) ∧ (∀ b, kd b ≠ 505 → f9 b = f b)) := by
  obtain ⟨dC, dI⟩ := D
  refine Met.ofW (cc := cX9_copyTo) (maxL := 5) (ret := (some .int)) (by decide) rfl ?_
  intro p e s m args below meth c s₁ B hml hv
  obtain ⟨rfl, hP, hK, hD0, hN, hZ⟩ := hv
  have hx := B.exec
  have hb := B.bytes
  have hr := B.returns
  have hU : ∀ w ∈ wsU, w.before _ s = true := fun w h => atoms_spec (ws := wU yX9_copyTo cX9_copyTo 5 (some .int)) B.pre w (List.mem_cons_of_mem _ h)
  have hown : s.vm.findClass RX9 = some m.cls := findClass_of_methodNamed B.named
  have hlocks := B.notSynchronized
  have hD := pl_in hD0
  have hS : va_S (fun q => q ∈ L) s.heap s.heap [] := va_S.rf
  have hl := lv_entry ([.ref o0, .int p1, .ref o2, .int p3]) (n := 5) (Nat.le_of_ble_eq_true rfl)
  rw [lg_entry_eq]
  generalize (lg_sl ([.ref o0, .int p1, .ref o2, .int p3]) ++ List.replicate (5 - (lg_sl ([.ref o0, .int p1, .ref o2, .int p3])).length) Slot.unset).toArray = ls at hl ⊢
  have hl : lv_has ls 5 [(0, .ref o0), (1, .int p1), (2, .ref o2), (3, .int p3)] := hl
  have bp1 : ((-2147483648) ≤ p1.toInt ∧ p1.toInt ≤ 2147483647) := ⟨i32_lo _, i32_hi _⟩
  have hfr0 : ∀ b, kd b ≠ 505 → f b = f b := fun _ _ => rfl
  refine lv_aload_n hx hb dX9_copyTo_0 rfl (lv_at hl 0 rfl) ?_
  refine lv_iload_n hx hb dX9_copyTo_1 rfl (lv_at hl 1 rfl) ?_
  obtain ⟨a_2, a_3, v_4, hfo_1, ⟨ma_2, ka_2⟩, ⟨ma_3, ka_3⟩, bv_4⟩ := un_13 (hG _ mo0) ko0
  refine tk_ViP (As := [.int p1]) (rest := []) (n := 1) hx hb hml hown hU hN hZ (s_X9_lengthOf_k13 l (dC, dI) cI cL cZ cR cG cH Z kd L f hG o0 mo0 ko0 p1) wd_1010 wd_1011 wd_1012 wd_85 wd_1013 (by decide +kernel) ⟨Nat.le_of_ble_eq_true rfl, Nat.le_of_ble_eq_true rfl⟩ hK hP hD hS mo0 hfo_1 9 rfl rfl rfl hl.1 rfl (Nat.le_of_ble_eq_true rfl) dX9_copyTo_2 ⟨Nat.le_of_ble_eq_true rfl, Nat.le_of_ble_eq_true rfl⟩ (fun x_5 f_6 H locs hw hP hD hS => ?_)
  obtain ⟨rfl, bx_5, relx_5⟩ := hw
  refine lv_istore (lv' := [(4, .int x_5), (0, .ref o0), (1, .int p1), (2, .ref o2), (3, .int p3)]) hx hb dX9_copyTo_5 hl (by decide) rfl (fun ls hl => ?_)
  refine lv_iload hx hb dX9_copyTo_7 (lv_at hl 0 rfl) ?_
  refine lv_iconst (v := 1) hx hb dX9_copyTo_9 (by decide) ?_
  refine lv_icmp_lt (tgt := 26) hx hb dX9_copyTo_10 (by decide) (fun c_8 => ?_) (fun c_8 => ?_)
  · skip
    rw [Int32.lt_iff_toInt_lt, ti_1] at c_8
    refine lv_iload_n hx hb dX9_copyTo_26 rfl (lv_at hl 4 rfl) ?_
    exact W.iret (v := p3) hx hb hr (fun t ht hW => ⟨⟨p3, f, rfl, ⟨hG, (by constructor <;> omega), hfr0⟩, by rw [ht]; exact hP, va_K.moved hW.alike hK, pl_in hD⟩, hS.F ht⟩) hS.2.2 dX9_copyTo_27
  · skip
    rw [Int32.lt_iff_toInt_lt, ti_1] at c_8
    refine lv_iload_n hx hb dX9_copyTo_13 rfl (lv_at hl 4 rfl) ?_
    refine lv_if_lt (tgt := 26) hx hb dX9_copyTo_14 (by decide) (fun c_9 => ?_) (fun c_9 => ?_)
    · skip
      rw [Int32.lt_iff_toInt_lt, ti_0] at c_9
      exfalso
      omega
    · skip
      rw [Int32.lt_iff_toInt_lt, ti_0] at c_9
      refine lv_iload_n hx hb dX9_copyTo_17 rfl (lv_at hl 4 rfl) ?_
      refine lv_iload hx hb dX9_copyTo_18 (lv_at hl 0 rfl) ?_
      refine lv_iadd hx hb dX9_copyTo_20 ?_
      refine lv_topi (fun x_10 ex_10 => ?_)
      have hx_10 : x_10.toInt = p3.toInt + x_5.toInt := by rw [ex_10, ad_I (by omega) (by omega)]
      have bx_10 : (1 ≤ x_10.toInt ∧ x_10.toInt ≤ 20) := by constructor <;> omega
      refine lv_aload_n hx hb dX9_copyTo_21 rfl (lv_at hl 3 rfl) ?_
      obtain ⟨g_12, hfo_11, hbg_12⟩ := un_505 (hG _ mo2) ko2
      refine tk_alenP (v := 12) hx hb hK hP 0 mo2 hfo_11 rfl rfl dX9_copyTo_22 ?_
      refine lv_icmp_le (tgt := 28) hx hb dX9_copyTo_23 (by decide) (fun c_13 => ?_) (fun c_13 => ?_)
      · skip
        rw [Int32.le_iff_toInt_le, ti_12] at c_13
        refine lv_aload_n hx hb dX9_copyTo_28 rfl (lv_at hl 1 rfl) ?_
        refine tk_getP (D := (dC, dI)) (ci := 9) (v := .ref a_2) (C := RX9) (T := TX9) (N := 3) hx hb hU inlX9 hown hK hP mo0 hfo_1 rfl 0 (by decide) (hU _ wd_95) (fun _ h9 => h9) rfl dX9_copyTo_29 ?_
        refine lv_iload_n hx hb dX9_copyTo_32 rfl (lv_at hl 2 rfl) ?_
        refine lv_bipush (v := 8) hx hb dX9_copyTo_33 (by decide) ?_
        refine lv_imul hx hb dX9_copyTo_35 ?_
        refine lv_topi (fun x_14 ex_14 => ?_)
        have hx_14 : x_14.toInt = p1.toInt * 8 := by rw [ex_14, ml_I (by rw [ti_8]; omega) (by rw [ti_8]; omega), ti_8]
        have bx_14 : (0 ≤ x_14.toInt ∧ x_14.toInt ≤ 56) := by constructor <;> omega
        refine lv_aload_n hx hb dX9_copyTo_36 rfl (lv_at hl 3 rfl) ?_
        refine lv_iload_n hx hb dX9_copyTo_37 rfl (lv_at hl 4 rfl) ?_
        refine lv_iload hx hb dX9_copyTo_38 (lv_at hl 0 rfl) ?_
        obtain ⟨g_16, hfo_15, hbg_16⟩ := un_506 (hG _ ma_2) ka_2
        refine tk_copyP hx hb (by rw [hml]; exact hl.1.symm) hown (hU _ wd_548) (hU _ wd_253) (hU _ wd_254) (hU _ wd_255) hK hP hD hS 0 ma_2 mo2 hfo_15 hfo_11 rfl (by rw [Int32.lt_iff_toInt_lt, ti_0]; omega) (by rw [Int32.lt_iff_toInt_lt, ti_0]; omega) (by rw [Int32.lt_iff_toInt_lt, ti_0]; omega) (cp_ok (by omega) (by omega) (by omega)) (cp_ok (by omega) (by omega) (by omega)) (Nat.le_of_ble_eq_true rfl) (Nat.le_of_ble_eq_true rfl) dX9_copyTo_40 (fun H locs hP hD hS => ?_)
        obtain ⟨f_18, ef_18⟩ : ∃ y : Nat → va_E, y = va_up f o2 (.inl (cI, 12, .inl (va_cpy g_16 g_12 (Int32.toNatClampNeg x_14) (Int32.toNatClampNeg p3) (Int32.toNatClampNeg x_5)))) := ⟨_, rfl⟩
        have hP : va_P (dC, dI) vwCl (va_pl L f_18) H := by rw [ef_18]; exact hP
        have hD : va_D (fun q => q ∈ L) (va_pl L f_18) := by rw [ef_18]; exact hD
        have hG : GI (okc cI cL cZ cR cG cH L kd) kd L f_18 := by rw [ef_18]; exact hG.set o2 (mk_505 ko2 ⟨_, rfl, okI_cpy (fun j => by have := hbg_16 j; constructor <;> omega) hbg_12 _ _ _⟩)
        have hfo_19 : f_18 o0 = .inr (9, [.ref a_2, .ref a_3, .int v_4]) := by rw [ef_18, up_ne (kd_ne ko2 ko0 (by decide))]; exact hfo_1
        have hfo_20 : f_18 a_2 = .inl (cI, 64, .inl g_16) := by rw [ef_18, up_ne (kd_ne ko2 ka_2 (by decide))]; exact hfo_15
        have hfr0 : ∀ b, kd b ≠ 505 → f_18 b = f b := fun b q505 => (congrFun ef_18 b).trans ((up_ne (fun e9 => q505 (by rw [e9]; exact ko2))).trans (hfr0 b q505))
        have hfo_21 : f_18 o2 = .inl (cI, 12, .inl (va_cpy g_16 g_12 (Int32.toNatClampNeg x_14) (Int32.toNatClampNeg p3) (Int32.toNatClampNeg x_5))) := by rw [ef_18]; exact up_self
        refine lv_iload_n hx hb dX9_copyTo_43 rfl (lv_at hl 4 rfl) ?_
        refine lv_iload hx hb dX9_copyTo_44 (lv_at hl 0 rfl) ?_
        refine lv_iadd hx hb dX9_copyTo_46 ?_
        refine lv_topi (fun x_22 ex_22 => ?_)
        have hx_22 : x_22.toInt = p3.toInt + x_5.toInt := by rw [ex_22, ad_I (by omega) (by omega)]
        have bx_22 : (1 ≤ x_22.toInt ∧ x_22.toInt ≤ 20) := by constructor <;> omega
        have hclc_23 : (0 ≤ x_22.toInt ∧ x_22.toInt ≤ 12) := by constructor <;> omega
        exact W.iret (v := x_22) hx hb hr (fun t ht hW => ⟨⟨x_22, f_18, rfl, ⟨hG, (by constructor <;> omega), hfr0⟩, by rw [ht]; exact hP, va_K.moved hW.alike hK, pl_in hD⟩, hS.F ht⟩) hS.2.2 dX9_copyTo_47
      · skip
        rw [Int32.le_iff_toInt_le, ti_12] at c_13
        refine lv_iload_n hx hb dX9_copyTo_26 rfl (lv_at hl 4 rfl) ?_
        exact W.iret (v := p3) hx hb hr (fun t ht hW => ⟨⟨p3, f, rfl, ⟨hG, (by constructor <;> omega), hfr0⟩, by rw [ht]; exact hP, va_K.moved hW.alike hK, pl_in hD⟩, hS.F ht⟩) hS.2.2 dX9_copyTo_27
set_option maxHeartbeats 8000000 in
set_option maxRecDepth 100000 in
theorem s_X6_study_k6_k3 (l : Launch) (D : va_G) (cI cL cZ cR cG cH : ClassId) (Z : zT) (kd : Nat → Nat) (L : List Nat) (f : Nat → va_E) (hG : GI (okc cI cL cZ cR cG cH L kd) kd L f) (o0 : Nat) (mo0 : o0 ∈ L) (ko0 : kd o0 = 6) (o1 : Nat) (mo1 : o1 ∈ L) (ko1 : kd o1 = 3) (p2 : Int32) (bp2 : (0 ≤ p2.toInt ∧ p2.toInt ≤ 8)) : mPV l D cI cL cZ cR cG cH Z yX6_study cX6_study 7 none 5 128 [.ref o0, .ref o1, .int p2] L f (fun (f9 : Nat → va_E) => GI (okc cI cL cZ cR cG cH L kd) kd L f9 ∧ (∀ b, kd b ≠ 3 → kd b ≠ 507 → kd b ≠ 525 → kd b ≠ 527 → kd b ≠ 531 → kd b ≠ 532 → f9 b = f b) ∧ (∀ b, kd b = 3 → fldR (f9 b) 0 = fldR (f b) 0) ∧ (∀ b, kd b = 3 → fldR (f9 b) 3 = fldR (f b) 3)) := by
  obtain ⟨dC, dI⟩ := D
  refine Met.ofW (cc := cX6_study) (maxL := 7) (ret := none) (by decide) rfl ?_
  intro p e s m args below meth c s₁ B hml hv
  obtain ⟨rfl, hP, hK, hD0, hN, hZ⟩ := hv
  have hx := B.exec
  have hb := B.bytes
  have hr := B.returns
  have hU : ∀ w ∈ wsU, w.before _ s = true := fun w h => atoms_spec (ws := wU yX6_study cX6_study 7 none) B.pre w (List.mem_cons_of_mem _ h)
  have hown : s.vm.findClass RX6 = some m.cls := findClass_of_methodNamed B.named
  have hlocks := B.notSynchronized
  have hD := pl_in hD0
  have hS : va_S (fun q => q ∈ L) s.heap s.heap [] := va_S.rf
  have hl := lv_entry ([.ref o0, .ref o1, .int p2]) (n := 7) (Nat.le_of_ble_eq_true rfl)
  rw [lg_entry_eq]
  generalize (lg_sl ([.ref o0, .ref o1, .int p2]) ++ List.replicate (7 - (lg_sl ([.ref o0, .ref o1, .int p2])).length) Slot.unset).toArray = ls at hl ⊢
  have hl : lv_has ls 7 [(0, .ref o0), (1, .ref o1), (2, .int p2)] := hl
  have hfr0 : ∀ b, kd b ≠ 3 → kd b ≠ 507 → kd b ≠ 525 → kd b ≠ 527 → kd b ≠ 531 → kd b ≠ 532 → f b = f b := fun _ _ _ _ _ _ _ => rfl
  have hrr3_0 : ∀ b, kd b = 3 → fldR (f b) 0 = fldR (f b) 0 := fun _ _ => rfl
  have hrr3_3 : ∀ b, kd b = 3 → fldR (f b) 3 = fldR (f b) 3 := fun _ _ => rfl
  refine lv_iconst (v := 1) hx hb dX6_study_0 (by decide) ?_
  refine lv_iload_n hx hb dX6_study_1 rfl (lv_at hl 2 rfl) ?_
  refine lv_ishl hx hb dX6_study_2 ?_
  refine lv_topi (fun x_1 ex_1 => ?_)
  have bx_1 : (1 ≤ x_1.toInt ∧ x_1.toInt ≤ 256) := by rw [ex_1]; exact sh_8 (by constructor <;> omega)
  refine lv_iconst (v := 1) hx hb dX6_study_3 (by decide) ?_
  refine lv_isub hx hb dX6_study_4 ?_
  refine lv_topi (fun x_2 ex_2 => ?_)
  have hx_2 : x_2.toInt = x_1.toInt - 1 := by rw [ex_2, sb_I (by rw [ti_1]; omega) (by rw [ti_1]; omega), ti_1]
  have bx_2 : (0 ≤ x_2.toInt ∧ x_2.toInt ≤ 255) := by constructor <;> omega
  refine lv_istore_n (lv' := [(3, .int x_2), (0, .ref o0), (1, .ref o1), (2, .int p2)]) hx hb dX6_study_5 rfl hl (by decide) rfl (fun ls hl => ?_)
  refine lv_iconst (v := 0) hx hb dX6_study_6 (by decide) ?_
  refine lv_istore (lv' := [(4, .int 0), (3, .int x_2), (0, .ref o0), (1, .ref o1), (2, .int p2)]) hx hb dX6_study_7 hl (by decide) rfl (fun ls hl => ?_)
  have hloop_15 : ∀ (n : Nat), ∀ (y_16 : Int32), (0 ≤ y_16.toInt ∧ y_16.toInt ≤ 12) → ∀ (f_18 : Nat → va_E), GI (okc cI cL cZ cR cG cH L kd) kd L f_18 → ∀ (H : Heap) (locs : List Loc), va_P (dC, dI) vwCl (va_pl L f_18) H → va_S (fun q => q ∈ L) s.heap H locs → va_D (fun q => q ∈ L) (va_pl L f_18) → (∀ b, kd b ≠ 3 → kd b ≠ 507 → kd b ≠ 525 → kd b ≠ 527 → kd b ≠ 531 → kd b ≠ 532 → f_18 b = f b) → (∀ b, kd b = 3 → fldR (f_18 b) 0 = fldR (f b) 0) → (∀ b, kd b = 3 → fldR (f_18 b) 3 = fldR (f b) 3) → 12 - y_16.toInt < (n : Int) → ∀ (ls : Array Slot), lv_has ls 7 [(4, .int y_16), (3, .int x_2), (0, .ref o0), (1, .ref o1), (2, .int p2)] → W p l e (headSpec (wU yX6_study cX6_study 7 none) { frames := 5, cells := 0, slots := 0, locals := 128 }).room s m [.ref o0, .ref o1, .int p2].toArray below meth c H locs 0 0 (MQ below (va_Qv (fun (f9 : Nat → va_E) => GI (okc cI cL cZ cR cG cH L kd) kd L f9 ∧ (∀ b, kd b ≠ 3 → kd b ≠ 507 → kd b ≠ 525 → kd b ≠ 527 → kd b ≠ 531 → kd b ≠ 532 → f9 b = f b) ∧ (∀ b, kd b = 3 → fldR (f9 b) 0 = fldR (f b) 0) ∧ (∀ b, kd b = 3 → fldR (f9 b) 3 = fldR (f b) 3)) (qP (dC, dI) cI cL cZ cR cG cH L) (fun q => q ∈ L)) [.ref o0, .ref o1, .int p2].toArray s 0 0 (fun q => q ∈ L)) (F0 m 9 ls []) := by
    intro n
    induction n with
    | zero => intro y_16 by_16 f_18 hG H locs hP hS hD hfr0 hrr3_0 hrr3_3 hmuhloop_15 ls hl; exfalso; omega
    | succ n ih_hloop_15 =>
      intro y_16 by_16 f_18 hG H locs hP hS hD hfr0 hrr3_0 hrr3_3 hmuhloop_15 ls hl
      refine lv_iload hx hb dX6_study_9 (lv_at hl 0 rfl) ?_
      refine lv_aload_n hx hb dX6_study_11 rfl (lv_at hl 2 rfl) ?_
      obtain ⟨v_20, v_21, a_22, a_23, a_24, v_25, a_26, a_27, a_28, hfo_19, bv_21, ⟨ma_22, ka_22⟩, ⟨ma_23, ka_23⟩, ⟨ma_24, ka_24⟩, ⟨ma_26, ka_26⟩, ⟨ma_27, ka_27⟩, ⟨ma_28, ka_28⟩⟩ := un_6 (hG _ mo0) ko0
      have bv_20 : ((-2147483648) ≤ v_20.toInt ∧ v_20.toInt ≤ 2147483647) := ⟨i32_lo _, i32_hi _⟩
      have bv_25 : ((-2147483648) ≤ v_25.toInt ∧ v_25.toInt ≤ 2147483647) := ⟨i32_lo _, i32_hi _⟩
      refine tk_getP (D := (dC, dI)) (ci := 6) (v := .ref a_23) (C := RX6) (T := TX6) (N := 9) hx hb hU inlX6 hown hK hP mo0 hfo_19 rfl 3 (by decide) (hU _ wd_139) (fun _ h9 => h9) rfl dX6_study_12 ?_
      obtain ⟨a_30, a_31, v_32, hfo_29, ⟨ma_30, ka_30⟩, ⟨ma_31, ka_31⟩, bv_32⟩ := un_9 (hG _ ma_23) ka_23
      refine tk_getP (D := (dC, dI)) (ci := 9) (v := .int v_32) (C := RX9) (T := TX9) (N := 3) hx hb hU inlX9 hown hK hP ma_23 hfo_29 rfl 2 (by decide) (hU _ wd_1397) (fun _ h9 => h9) rfl dX6_study_15 ?_
      refine lv_icmp_ge (tgt := 128) hx hb dX6_study_18 (by decide) (fun c_33 => ?_) (fun c_33 => ?_)
      · skip
        rw [Int32.le_iff_toInt_le] at c_33
        exact W.vret hx hb hr (fun t ht hW => ⟨⟨f_18, rfl, ⟨hG, hfr0, hrr3_0, hrr3_3⟩, by rw [ht]; exact hP, va_K.moved hW.alike hK, pl_in hD⟩, hS.F ht⟩) hS.2.2 dX6_study_128
      · skip
        rw [Int32.le_iff_toInt_le] at c_33
        refine lv_aload_n hx hb dX6_study_21 rfl (lv_at hl 3 rfl) ?_
        refine lv_aload_n hx hb dX6_study_22 rfl (lv_at hl 2 rfl) ?_
        refine tk_getP (D := (dC, dI)) (ci := 6) (v := .ref a_28) (C := RX6) (T := TX6) (N := 9) hx hb hU inlX6 hown hK hP mo0 hfo_19 rfl 8 (by decide) (hU _ wd_143) (fun _ h9 => h9) rfl dX6_study_23 ?_
        refine lv_aload_n hx hb dX6_study_26 rfl (lv_at hl 2 rfl) ?_
        refine tk_getP (D := (dC, dI)) (ci := 6) (v := .ref a_24) (C := RX6) (T := TX6) (N := 9) hx hb hU inlX6 hown hK hP mo0 hfo_19 rfl 4 (by decide) (hU _ wd_140) (fun _ h9 => h9) rfl dX6_study_27 ?_
        refine lv_iload hx hb dX6_study_30 (lv_at hl 0 rfl) ?_
        refine lv_aload_n hx hb dX6_study_32 rfl (lv_at hl 2 rfl) ?_
        refine tk_getP (D := (dC, dI)) (ci := 6) (v := .ref a_28) (C := RX6) (T := TX6) (N := 9) hx hb hU inlX6 hown hK hP mo0 hfo_19 rfl 8 (by decide) (hU _ wd_143) (fun _ h9 => h9) rfl dX6_study_33 ?_
        refine lv_iconst (v := 0) hx hb dX6_study_36 (by decide) ?_
        obtain ⟨a_35, a_36, v_37, hfo_34, ⟨ma_35, ka_35⟩, ⟨ma_36, ka_36⟩, bv_37⟩ := un_9 (hG _ ma_24) ka_24
        refine tk_ViP (As := [.int y_16, .ref a_28, .int 0]) (rest := [.ref a_28, .ref o1]) (n := 3) hx hb hml hown hU hN hZ (s_X9_copyTo_k9_a507_n l (dC, dI) cI cL cZ cR cG cH Z kd L f_18 hG a_24 ma_24 ka_24 y_16 a_28 ma_28 ka_28 0 (by decide)) wd_1413 wd_1007 wd_1008 wd_85 wd_1009 (by decide +kernel) ⟨Nat.le_of_ble_eq_true rfl, Nat.le_of_ble_eq_true rfl⟩ hK hP hD hS ma_24 hfo_34 9 rfl rfl rfl hl.1 rfl (Nat.le_of_ble_eq_true rfl) dX6_study_37 ⟨Nat.le_of_ble_eq_true rfl, Nat.le_of_ble_eq_true rfl⟩ (fun x_38 f_39 H locs hw hP hD hS => ?_)
        obtain ⟨hG, bx_38, hkc_40⟩ := hw
        have hfo_42 : f_39 o0 = .inr (6, [.int v_20, .int v_21, .ref a_22, .ref a_23, .ref a_24, .int v_25, .ref a_26, .ref a_27, .ref a_28]) := by rw [hkc_40 o0 (by rw [ko0]; decide)]; exact hfo_19
        have hfo_43 : f_39 a_23 = .inr (9, [.ref a_30, .ref a_31, .int v_32]) := by rw [hkc_40 a_23 (by rw [ka_23]; decide)]; exact hfo_29
        have hfo_44 : f_39 a_24 = .inr (9, [.ref a_35, .ref a_36, .int v_37]) := by rw [hkc_40 a_24 (by rw [ka_24]; decide)]; exact hfo_34
        have hfr0 : ∀ b, kd b ≠ 3 → kd b ≠ 507 → kd b ≠ 525 → kd b ≠ 527 → kd b ≠ 531 → kd b ≠ 532 → f_39 b = f b := fun b q3 q507 q525 q527 q531 q532 => (hkc_40 b q507).trans (hfr0 b q3 q507 q525 q527 q531 q532)
        have hrr3_0 : ∀ b, kd b = 3 → fldR (f_39 b) 0 = fldR (f b) 0 := fun b kb => (congrArg (fun x => fldR x 0) (hkc_40 b (by rw [kb]; decide))).trans (hrr3_0 b kb)
        have hrr3_3 : ∀ b, kd b = 3 → fldR (f_39 b) 3 = fldR (f b) 3 := fun b kb => (congrArg (fun x => fldR x 3) (hkc_40 b (by rw [kb]; decide))).trans (hrr3_3 b kb)
        obtain ⟨a_46, a_47, a_48, a_49, a_50, v_51, v_52, v_53, v_54, v_55, v_56, v_57, a_58, a_59, a_60, v_61, a_62, a_63, hfo_45, ⟨ma_46, ka_46⟩, ⟨ma_47, ka_47⟩, ⟨ma_48, ka_48⟩, ⟨ma_49, ka_49⟩, ⟨ma_50, ka_50⟩, bv_51, bv_52, bv_53, ⟨ma_58, ka_58⟩, ⟨ma_59, ka_59⟩, ⟨ma_60, ka_60⟩, bv_61, ⟨ma_62, ka_62⟩, ⟨ma_63, ka_63⟩⟩ := un_3 (hG _ mo1) ko1
        have bv_54 : ((-2147483648) ≤ v_54.toInt ∧ v_54.toInt ≤ 2147483647) := ⟨i32_lo _, i32_hi _⟩
        have bv_55 : ((-2147483648) ≤ v_55.toInt ∧ v_55.toInt ≤ 2147483647) := ⟨i32_lo _, i32_hi _⟩
        have bv_56 : ((-2147483648) ≤ v_56.toInt ∧ v_56.toInt ≤ 2147483647) := ⟨i32_lo _, i32_hi _⟩
        have bv_57 : ((-2147483648) ≤ v_57.toInt ∧ v_57.toInt ≤ 2147483647) := ⟨i32_lo _, i32_hi _⟩
        refine tk_VvP (As := [.ref a_28, .int x_38]) (rest := []) (n := 2) hx hb hml hown hU hN hZ (s_X3_takeSigns_k3_a507_r l (dC, dI) cI cL cZ cR cG cH Z kd L f_39 hG o1 mo1 ko1 a_28 ma_28 ka_28 x_38) wd_1414 wd_719 wd_720 wd_16 wd_721 (by decide +kernel) ⟨Nat.le_of_ble_eq_true rfl, Nat.le_of_ble_eq_true rfl⟩ hK hP hD hS mo1 hfo_45 3 rfl rfl rfl hl.1 rfl (Nat.le_of_ble_eq_true rfl) dX6_study_40 ⟨Nat.le_of_ble_eq_true rfl, Nat.le_of_ble_eq_true rfl⟩ (fun f_65 H locs hw hP hD hS => ?_)
        obtain ⟨hG, hkc_66, hrc_67, hrc_68⟩ := hw
        have hfo_70 : f_65 o0 = .inr (6, [.int v_20, .int v_21, .ref a_22, .ref a_23, .ref a_24, .int v_25, .ref a_26, .ref a_27, .ref a_28]) := by rw [hkc_66 o0 (by rw [ko0]; decide) (by rw [ko0]; decide)]; exact hfo_42
        have hfo_71 : f_65 a_23 = .inr (9, [.ref a_30, .ref a_31, .int v_32]) := by rw [hkc_66 a_23 (by rw [ka_23]; decide) (by rw [ka_23]; decide)]; exact hfo_43
        have hfo_72 : f_65 a_24 = .inr (9, [.ref a_35, .ref a_36, .int v_37]) := by rw [hkc_66 a_24 (by rw [ka_24]; decide) (by rw [ka_24]; decide)]; exact hfo_44
        have hfr0 : ∀ b, kd b ≠ 3 → kd b ≠ 507 → kd b ≠ 525 → kd b ≠ 527 → kd b ≠ 531 → kd b ≠ 532 → f_65 b = f b := fun b q3 q507 q525 q527 q531 q532 => (hkc_66 b q3 q507).trans (hfr0 b q3 q507 q525 q527 q531 q532)
        have hrr3_0 : ∀ b, kd b = 3 → fldR (f_65 b) 0 = fldR (f b) 0 := fun b kb => (hrc_67 b kb).trans (hrr3_0 b kb)
        have hrr3_3 : ∀ b, kd b = 3 → fldR (f_65 b) 3 = fldR (f b) 3 := fun b kb => (hrc_68 b kb).trans (hrr3_3 b kb)
        obtain ⟨a_74, a_75, a_76, a_77, a_78, v_79, v_80, v_81, v_82, v_83, v_84, v_85, a_86, a_87, a_88, v_89, a_90, a_91, hfo_73, ⟨ma_74, ka_74⟩, ⟨ma_75, ka_75⟩, ⟨ma_76, ka_76⟩, ⟨ma_77, ka_77⟩, ⟨ma_78, ka_78⟩, bv_79, bv_80, bv_81, ⟨ma_86, ka_86⟩, ⟨ma_87, ka_87⟩, ⟨ma_88, ka_88⟩, bv_89, ⟨ma_90, ka_90⟩, ⟨ma_91, ka_91⟩⟩ := un_3 (hG _ mo1) ko1
        have bv_82 : ((-2147483648) ≤ v_82.toInt ∧ v_82.toInt ≤ 2147483647) := ⟨i32_lo _, i32_hi _⟩
        have bv_83 : ((-2147483648) ≤ v_83.toInt ∧ v_83.toInt ≤ 2147483647) := ⟨i32_lo _, i32_hi _⟩
        have bv_84 : ((-2147483648) ≤ v_84.toInt ∧ v_84.toInt ≤ 2147483647) := ⟨i32_lo _, i32_hi _⟩
        have bv_85 : ((-2147483648) ≤ v_85.toInt ∧ v_85.toInt ≤ 2147483647) := ⟨i32_lo _, i32_hi _⟩
        obtain rfl : a_46 = a_74 := by have hk9 := hrc_67 o1 ko1; rw [hfo_73, hfo_45] at hk9; exact (Option.some.inj hk9).symm
        obtain rfl : a_49 = a_77 := by have hk9 := hrc_68 o1 ko1; rw [hfo_73, hfo_45] at hk9; exact (Option.some.inj hk9).symm
        refine lv_aload_n hx hb dX6_study_43 rfl (lv_at hl 2 rfl) ?_
        refine tk_getP (D := (dC, dI)) (ci := 6) (v := .ref a_23) (C := RX6) (T := TX6) (N := 9) hx hb hU inlX6 hown hK hP mo0 hfo_70 rfl 3 (by decide) (hU _ wd_139) (fun _ h9 => h9) rfl dX6_study_44 ?_
        refine lv_iload hx hb dX6_study_47 (lv_at hl 0 rfl) ?_
        refine lv_aload_n hx hb dX6_study_49 rfl (lv_at hl 2 rfl) ?_
        refine tk_getP (D := (dC, dI)) (ci := 6) (v := .ref a_28) (C := RX6) (T := TX6) (N := 9) hx hb hU inlX6 hown hK hP mo0 hfo_70 rfl 8 (by decide) (hU _ wd_143) (fun _ h9 => h9) rfl dX6_study_50 ?_
        refine lv_iconst (v := 0) hx hb dX6_study_53 (by decide) ?_
        refine tk_ViP (As := [.int y_16, .ref a_28, .int 0]) (rest := []) (n := 3) hx hb hml hown hU hN hZ (s_X9_copyTo_k9_a507_n l (dC, dI) cI cL cZ cR cG cH Z kd L f_65 hG a_23 ma_23 ka_23 y_16 a_28 ma_28 ka_28 0 (by decide)) wd_1413 wd_1007 wd_1008 wd_85 wd_1009 (by decide +kernel) ⟨Nat.le_of_ble_eq_true rfl, Nat.le_of_ble_eq_true rfl⟩ hK hP hD hS ma_23 hfo_71 9 rfl rfl rfl hl.1 rfl (Nat.le_of_ble_eq_true rfl) dX6_study_54 ⟨Nat.le_of_ble_eq_true rfl, Nat.le_of_ble_eq_true rfl⟩ (fun x_92 f_93 H locs hw hP hD hS => ?_)
        obtain ⟨hG, bx_92, hkc_94⟩ := hw
        have hfo_96 : f_93 o0 = .inr (6, [.int v_20, .int v_21, .ref a_22, .ref a_23, .ref a_24, .int v_25, .ref a_26, .ref a_27, .ref a_28]) := by rw [hkc_94 o0 (by rw [ko0]; decide)]; exact hfo_70
        have hfo_97 : f_93 a_23 = .inr (9, [.ref a_30, .ref a_31, .int v_32]) := by rw [hkc_94 a_23 (by rw [ka_23]; decide)]; exact hfo_71
        have hfo_98 : f_93 a_24 = .inr (9, [.ref a_35, .ref a_36, .int v_37]) := by rw [hkc_94 a_24 (by rw [ka_24]; decide)]; exact hfo_72
        have hfo_99 : f_93 o1 = .inr (3, [.ref a_46, .ref a_75, .ref a_76, .ref a_49, .ref a_78, .int v_79, .int v_80, .int v_81, .int v_82, .int v_83, .int v_84, .int v_85, .ref a_86, .ref a_87, .ref a_88, .int v_89, .ref a_90, .ref a_91]) := by rw [hkc_94 o1 (by rw [ko1]; decide)]; exact hfo_73
        have hfr0 : ∀ b, kd b ≠ 3 → kd b ≠ 507 → kd b ≠ 525 → kd b ≠ 527 → kd b ≠ 531 → kd b ≠ 532 → f_93 b = f b := fun b q3 q507 q525 q527 q531 q532 => (hkc_94 b q507).trans (hfr0 b q3 q507 q525 q527 q531 q532)
        have hrr3_0 : ∀ b, kd b = 3 → fldR (f_93 b) 0 = fldR (f b) 0 := fun b kb => (congrArg (fun x => fldR x 0) (hkc_94 b (by rw [kb]; decide))).trans (hrr3_0 b kb)
        have hrr3_3 : ∀ b, kd b = 3 → fldR (f_93 b) 3 = fldR (f b) 3 := fun b kb => (congrArg (fun x => fldR x 3) (hkc_94 b (by rw [kb]; decide))).trans (hrr3_3 b kb)
        refine lv_istore (lv' := [(5, .int x_92), (4, .int y_16), (3, .int x_2), (0, .ref o0), (1, .ref o1), (2, .int p2)]) hx hb dX6_study_57 hl (by decide) rfl (fun ls hl => ?_)
        refine lv_aload_n hx hb dX6_study_59 rfl (lv_at hl 3 rfl) ?_
        refine tk_getP (D := (dC, dI)) (ci := 6) (v := .ref a_27) (C := RX6) (T := TX6) (N := 9) hx hb hU inlX6 hown hK hP mo0 hfo_96 rfl 7 (by decide) (hU _ wd_142) (fun _ h9 => h9) rfl dX6_study_60 ?_
        refine lv_iload hx hb dX6_study_63 (lv_at hl 1 rfl) ?_
        refine lv_aload_n hx hb dX6_study_65 rfl (lv_at hl 4 rfl) ?_
        refine lv_aload_n hx hb dX6_study_66 rfl (lv_at hl 3 rfl) ?_
        refine tk_getP (D := (dC, dI)) (ci := 6) (v := .ref a_28) (C := RX6) (T := TX6) (N := 9) hx hb hU inlX6 hown hK hP mo0 hfo_96 rfl 8 (by decide) (hU _ wd_143) (fun _ h9 => h9) rfl dX6_study_67 ?_
        refine lv_iload hx hb dX6_study_70 (lv_at hl 0 rfl) ?_
        refine lv_iload_n hx hb dX6_study_72 rfl (lv_at hl 2 rfl) ?_
        refine lv_aload_n hx hb dX6_study_73 rfl (lv_at hl 3 rfl) ?_
        refine tk_getP (D := (dC, dI)) (ci := 6) (v := .int v_21) (C := RX6) (T := TX6) (N := 9) hx hb hU inlX6 hown hK hP mo0 hfo_96 rfl 1 (by decide) (hU _ wd_136) (fun _ h9 => h9) rfl dX6_study_74 ?_
        refine tk_ViP (As := [.ref a_28, .int x_92, .int x_2, .int v_21]) (rest := [.int y_16, .ref a_27]) (n := 4) hx hb hml hown hU hN hZ (s_X3_align_k3_a507 l (dC, dI) cI cL cZ cR cG cH Z kd L f_93 hG o1 mo1 ko1 a_28 ma_28 ka_28 x_92 (by constructor <;> omega) x_2 v_21 (by constructor <;> omega)) wd_1415 wd_1019 wd_1020 wd_16 wd_1021 (by decide +kernel) ⟨Nat.le_of_ble_eq_true rfl, Nat.le_of_ble_eq_true rfl⟩ hK hP hD hS mo1 hfo_99 3 rfl rfl rfl hl.1 rfl (Nat.le_of_ble_eq_true rfl) dX6_study_77 ⟨Nat.le_of_ble_eq_true rfl, Nat.le_of_ble_eq_true rfl⟩ (fun x_100 f_101 H locs hw hP hD hS => ?_)
        obtain ⟨hG, bx_100, hkc_102⟩ := hw
        have hfo_104 : f_101 o0 = .inr (6, [.int v_20, .int v_21, .ref a_22, .ref a_23, .ref a_24, .int v_25, .ref a_26, .ref a_27, .ref a_28]) := by rw [hkc_102 o0 (by rw [ko0]; decide) (by rw [ko0]; decide)]; exact hfo_96
        have hfo_105 : f_101 a_23 = .inr (9, [.ref a_30, .ref a_31, .int v_32]) := by rw [hkc_102 a_23 (by rw [ka_23]; decide) (by rw [ka_23]; decide)]; exact hfo_97
        have hfo_106 : f_101 a_24 = .inr (9, [.ref a_35, .ref a_36, .int v_37]) := by rw [hkc_102 a_24 (by rw [ka_24]; decide) (by rw [ka_24]; decide)]; exact hfo_98
        have hfo_107 : f_101 o1 = .inr (3, [.ref a_46, .ref a_75, .ref a_76, .ref a_49, .ref a_78, .int v_79, .int v_80, .int v_81, .int v_82, .int v_83, .int v_84, .int v_85, .ref a_86, .ref a_87, .ref a_88, .int v_89, .ref a_90, .ref a_91]) := by rw [hkc_102 o1 (by rw [ko1]; decide) (by rw [ko1]; decide)]; exact hfo_99
        have hfr0 : ∀ b, kd b ≠ 3 → kd b ≠ 507 → kd b ≠ 525 → kd b ≠ 527 → kd b ≠ 531 → kd b ≠ 532 → f_101 b = f b := fun b q3 q507 q525 q527 q531 q532 => (hkc_102 b q525 q527).trans (hfr0 b q3 q507 q525 q527 q531 q532)
        have hrr3_0 : ∀ b, kd b = 3 → fldR (f_101 b) 0 = fldR (f b) 0 := fun b kb => (congrArg (fun x => fldR x 0) (hkc_102 b (by rw [kb]; decide) (by rw [kb]; decide))).trans (hrr3_0 b kb)
        have hrr3_3 : ∀ b, kd b = 3 → fldR (f_101 b) 3 = fldR (f b) 3 := fun b kb => (congrArg (fun x => fldR x 3) (hkc_102 b (by rw [kb]; decide) (by rw [kb]; decide))).trans (hrr3_3 b kb)
        obtain ⟨g_109, hfo_108, hbg_109⟩ := un_532 (hG _ ma_27) ka_27
        refine tk_istP hx hb hK hP hD hS 0 ma_27 hfo_108 rfl (vp_in_iff.mpr (by constructor <;> omega)) dX6_study_80 (fun H locs hP hD hS => ?_)
        obtain ⟨f_111, ef_111⟩ : ∃ y : Nat → va_E, y = va_up f_101 a_27 (.inl (cI, 12, .inl (upd g_109 (Int32.toNatClampNeg y_16) x_100))) := ⟨_, rfl⟩
        have hP : va_P (dC, dI) vwCl (va_pl L f_111) H := by rw [ef_111]; exact hP
        have hD : va_D (fun q => q ∈ L) (va_pl L f_111) := by rw [ef_111]; exact hD
        have hG : GI (okc cI cL cZ cR cG cH L kd) kd L f_111 := by rw [ef_111]; exact hG.set a_27 (mk_532 ka_27 ⟨_, rfl, okI_up hbg_109 (by constructor <;> omega) _⟩)
        have hfo_112 : f_111 o0 = .inr (6, [.int v_20, .int v_21, .ref a_22, .ref a_23, .ref a_24, .int v_25, .ref a_26, .ref a_27, .ref a_28]) := by rw [ef_111, up_ne (kd_ne ka_27 ko0 (by decide))]; exact hfo_104
        have hfo_113 : f_111 a_23 = .inr (9, [.ref a_30, .ref a_31, .int v_32]) := by rw [ef_111, up_ne (kd_ne ka_27 ka_23 (by decide))]; exact hfo_105
        have hfo_114 : f_111 a_24 = .inr (9, [.ref a_35, .ref a_36, .int v_37]) := by rw [ef_111, up_ne (kd_ne ka_27 ka_24 (by decide))]; exact hfo_106
        have hfo_115 : f_111 o1 = .inr (3, [.ref a_46, .ref a_75, .ref a_76, .ref a_49, .ref a_78, .int v_79, .int v_80, .int v_81, .int v_82, .int v_83, .int v_84, .int v_85, .ref a_86, .ref a_87, .ref a_88, .int v_89, .ref a_90, .ref a_91]) := by rw [ef_111, up_ne (kd_ne ka_27 ko1 (by decide))]; exact hfo_107
        have hfr0 : ∀ b, kd b ≠ 3 → kd b ≠ 507 → kd b ≠ 525 → kd b ≠ 527 → kd b ≠ 531 → kd b ≠ 532 → f_111 b = f b := fun b q3 q507 q525 q527 q531 q532 => (congrFun ef_111 b).trans ((up_ne (fun e9 => q532 (by rw [e9]; exact ka_27))).trans (hfr0 b q3 q507 q525 q527 q531 q532))
        have hrr3_0 : ∀ b, kd b = 3 → fldR (f_111 b) 0 = fldR (f b) 0 := fun b kb => (congrArg (fun x => fldR x 0) ((congrFun ef_111 b).trans (up_ne (kd_ne ka_27 kb (by decide))))).trans (hrr3_0 b kb)
        have hrr3_3 : ∀ b, kd b = 3 → fldR (f_111 b) 3 = fldR (f b) 3 := fun b kb => (congrArg (fun x => fldR x 3) ((congrFun ef_111 b).trans (up_ne (kd_ne ka_27 kb (by decide))))).trans (hrr3_3 b kb)
        have hfo_116 : f_111 a_27 = .inl (cI, 12, .inl (upd g_109 (Int32.toNatClampNeg y_16) x_100)) := by rw [ef_111]; exact up_self
        refine lv_iconst (v := 0) hx hb dX6_study_81 (by decide) ?_
        refine lv_istore (lv' := [(6, .int 0), (5, .int x_92), (4, .int y_16), (3, .int x_2), (0, .ref o0), (1, .ref o1), (2, .int p2)]) hx hb dX6_study_82 hl (by decide) rfl (fun ls hl => ?_)
        have hloop_141 : ∀ (n : Nat), ∀ (y_142 : Int32), (0 ≤ y_142.toInt ∧ y_142.toInt ≤ 9) → ∀ (f_144 : Nat → va_E), GI (okc cI cL cZ cR cG cH L kd) kd L f_144 → ∀ (H : Heap) (locs : List Loc), va_P (dC, dI) vwCl (va_pl L f_144) H → va_S (fun q => q ∈ L) s.heap H locs → va_D (fun q => q ∈ L) (va_pl L f_144) → (∀ b, kd b ≠ 3 → kd b ≠ 507 → kd b ≠ 525 → kd b ≠ 527 → kd b ≠ 531 → kd b ≠ 532 → f_144 b = f b) → (∀ b, kd b = 3 → fldR (f_144 b) 0 = fldR (f b) 0) → (∀ b, kd b = 3 → fldR (f_144 b) 3 = fldR (f b) 3) → (f_144 o0 = .inr (6, [.int v_20, .int v_21, .ref a_22, .ref a_23, .ref a_24, .int v_25, .ref a_26, .ref a_27, .ref a_28])) → (f_144 a_23 = .inr (9, [.ref a_30, .ref a_31, .int v_32])) → (f_144 a_24 = .inr (9, [.ref a_35, .ref a_36, .int v_37])) → (f_144 o1 = .inr (3, [.ref a_46, .ref a_75, .ref a_76, .ref a_49, .ref a_78, .int v_79, .int v_80, .int v_81, .int v_82, .int v_83, .int v_84, .int v_85, .ref a_86, .ref a_87, .ref a_88, .int v_89, .ref a_90, .ref a_91])) → 9 - y_142.toInt < (n : Int) → ∀ (ls : Array Slot), lv_has ls 7 [(6, .int y_142), (5, .int x_92), (4, .int y_16), (3, .int x_2), (0, .ref o0), (1, .ref o1), (2, .int p2)] → W p l e (headSpec (wU yX6_study cX6_study 7 none) { frames := 5, cells := 0, slots := 0, locals := 128 }).room s m [.ref o0, .ref o1, .int p2].toArray below meth c H locs 0 0 (MQ below (va_Qv (fun (f9 : Nat → va_E) => GI (okc cI cL cZ cR cG cH L kd) kd L f9 ∧ (∀ b, kd b ≠ 3 → kd b ≠ 507 → kd b ≠ 525 → kd b ≠ 527 → kd b ≠ 531 → kd b ≠ 532 → f9 b = f b) ∧ (∀ b, kd b = 3 → fldR (f9 b) 0 = fldR (f b) 0) ∧ (∀ b, kd b = 3 → fldR (f9 b) 3 = fldR (f b) 3)) (qP (dC, dI) cI cL cZ cR cG cH L) (fun q => q ∈ L)) [.ref o0, .ref o1, .int p2].toArray s 0 0 (fun q => q ∈ L)) (F0 m 84 ls []) := by
          intro n
          induction n with
          | zero => intro y_142 by_142 f_144 hG H locs hP hS hD hfr0 hrr3_0 hrr3_3 hfo_145 hfo_146 hfo_147 hfo_148 hmuhloop_141 ls hl; exfalso; omega
          | succ n ih_hloop_141 =>
            intro y_142 by_142 f_144 hG H locs hP hS hD hfr0 hrr3_0 hrr3_3 hfo_145 hfo_146 hfo_147 hfo_148 hmuhloop_141 ls hl
            refine lv_iload hx hb dX6_study_84 (lv_at hl 0 rfl) ?_
            refine lv_aload_n hx hb dX6_study_86 rfl (lv_at hl 4 rfl) ?_
            refine tk_getP (D := (dC, dI)) (ci := 6) (v := .ref a_27) (C := RX6) (T := TX6) (N := 9) hx hb hU inlX6 hown hK hP mo0 hfo_145 rfl 7 (by decide) (hU _ wd_142) (fun _ h9 => h9) rfl dX6_study_87 ?_
            refine lv_iload hx hb dX6_study_90 (lv_at hl 2 rfl) ?_
            obtain ⟨g_150, hfo_149, hbg_150⟩ := un_532 (hG _ ma_27) ka_27
            refine tk_ildP hx hb hK hP 0 ma_27 hfo_149 rfl (vp_in_iff.mpr (by constructor <;> omega)) dX6_study_92 ?_
            refine lv_topi (fun x_151 ex_151 => ?_)
            have bx_151 : (0 ≤ x_151.toInt ∧ x_151.toInt ≤ 9) := by rw [ex_151]; exact hbg_150 _
            refine lv_icmp_ge (tgt := 122) hx hb dX6_study_93 (by decide) (fun c_152 => ?_) (fun c_152 => ?_)
            · skip
              rw [Int32.le_iff_toInt_le] at c_152
              obtain ⟨x_153, ex_153⟩ : ∃ y : Int32, y_16 + 1 = y := ⟨_, rfl⟩
              have hx_153 : x_153.toInt = y_16.toInt + 1 := by rw [← ex_153, ad_I (by rw [ti_1]; omega) (by rw [ti_1]; omega), ti_1]
              have bx_153 : (1 ≤ x_153.toInt ∧ x_153.toInt ≤ 12) := by constructor <;> omega
              refine lv_iinc (v := x_153) (lv' := [(4, .int x_153), (6, .int y_142), (5, .int x_92), (3, .int x_2), (0, .ref o0), (1, .ref o1), (2, .int p2)]) hx hb dX6_study_122 hl (k := 2) rfl ex_153 (by decide) rfl (fun ls hl => ?_)
              refine lv_goto (tgt := 9) hx hb dX6_study_125 (by decide) ?_
              exact ih_hloop_15 x_153 (by constructor <;> omega) f_144 hG _ _ hP hS hD hfr0 hrr3_0 hrr3_3 (by omega) ls (lv_sub hl [0, 3, 4, 5, 6] rfl)
            · skip
              rw [Int32.le_iff_toInt_le] at c_152
              refine lv_aload_n hx hb dX6_study_96 rfl (lv_at hl 4 rfl) ?_
              refine tk_getP (D := (dC, dI)) (ci := 6) (v := .ref a_26) (C := RX6) (T := TX6) (N := 9) hx hb hU inlX6 hown hK hP mo0 hfo_145 rfl 6 (by decide) (hU _ wd_141) (fun _ h9 => h9) rfl dX6_study_97 ?_
              refine lv_iload hx hb dX6_study_100 (lv_at hl 2 rfl) ?_
              refine lv_bipush (v := 9) hx hb dX6_study_102 (by decide) ?_
              refine lv_imul hx hb dX6_study_104 ?_
              refine lv_topi (fun x_154 ex_154 => ?_)
              have hx_154 : x_154.toInt = y_16.toInt * 9 := by rw [ex_154, ml_I (by rw [ti_9]; omega) (by rw [ti_9]; omega), ti_9]
              have bx_154 : (0 ≤ x_154.toInt ∧ x_154.toInt ≤ 99) := by constructor <;> omega
              refine lv_iload hx hb dX6_study_105 (lv_at hl 0 rfl) ?_
              refine lv_iadd hx hb dX6_study_107 ?_
              refine lv_topi (fun x_155 ex_155 => ?_)
              have hx_155 : x_155.toInt = x_154.toInt + y_142.toInt := by rw [ex_155, ad_I (by omega) (by omega)]
              have bx_155 : (0 ≤ x_155.toInt ∧ x_155.toInt ≤ 107) := by constructor <;> omega
              refine lv_aload_n hx hb dX6_study_108 rfl (lv_at hl 5 rfl) ?_
              refine tk_getP (D := (dC, dI)) (ci := 3) (v := .ref a_88) (C := RX3) (T := TX3) (N := 18) hx hb hU inlX3 hown hK hP mo1 hfo_148 rfl 14 (by decide) (hU _ wd_1412) (fun _ h9 => h9) rfl dX6_study_109 ?_
              refine lv_iload hx hb dX6_study_112 (lv_at hl 0 rfl) ?_
              obtain ⟨g_157, hfo_156, hbg_157⟩ := un_527 (hG _ ma_88) ka_88
              refine tk_ildP hx hb hK hP 0 ma_88 hfo_156 rfl (vp_in_iff.mpr (by constructor <;> omega)) dX6_study_114 ?_
              refine lv_topi (fun x_158 ex_158 => ?_)
              have bx_158 : (0 ≤ x_158.toInt ∧ x_158.toInt ≤ 255) := by rw [ex_158]; exact hbg_157 _
              obtain ⟨g_160, hfo_159, hbg_160⟩ := un_531 (hG _ ma_26) ka_26
              refine tk_istP hx hb hK hP hD hS 0 ma_26 hfo_159 rfl (vp_in_iff.mpr (by constructor <;> omega)) dX6_study_115 (fun H locs hP hD hS => ?_)
              obtain ⟨f_162, ef_162⟩ : ∃ y : Nat → va_E, y = va_up f_144 a_26 (.inl (cI, 108, .inl (upd g_160 (Int32.toNatClampNeg x_155) x_158))) := ⟨_, rfl⟩
              have hP : va_P (dC, dI) vwCl (va_pl L f_162) H := by rw [ef_162]; exact hP
              have hD : va_D (fun q => q ∈ L) (va_pl L f_162) := by rw [ef_162]; exact hD
              have hG : GI (okc cI cL cZ cR cG cH L kd) kd L f_162 := by rw [ef_162]; exact hG.set a_26 (mk_531 ka_26 ⟨_, rfl, okI_up hbg_160 ⟨i32_lo _, i32_hi _⟩ _⟩)
              have hfo_163 : f_162 o0 = .inr (6, [.int v_20, .int v_21, .ref a_22, .ref a_23, .ref a_24, .int v_25, .ref a_26, .ref a_27, .ref a_28]) := by rw [ef_162, up_ne (kd_ne ka_26 ko0 (by decide))]; exact hfo_145
              have hfo_164 : f_162 a_23 = .inr (9, [.ref a_30, .ref a_31, .int v_32]) := by rw [ef_162, up_ne (kd_ne ka_26 ka_23 (by decide))]; exact hfo_146
              have hfo_165 : f_162 a_24 = .inr (9, [.ref a_35, .ref a_36, .int v_37]) := by rw [ef_162, up_ne (kd_ne ka_26 ka_24 (by decide))]; exact hfo_147
              have hfo_166 : f_162 o1 = .inr (3, [.ref a_46, .ref a_75, .ref a_76, .ref a_49, .ref a_78, .int v_79, .int v_80, .int v_81, .int v_82, .int v_83, .int v_84, .int v_85, .ref a_86, .ref a_87, .ref a_88, .int v_89, .ref a_90, .ref a_91]) := by rw [ef_162, up_ne (kd_ne ka_26 ko1 (by decide))]; exact hfo_148
              have hfo_167 : f_162 a_27 = .inl (cI, 12, .inl g_150) := by rw [ef_162, up_ne (kd_ne ka_26 ka_27 (by decide))]; exact hfo_149
              have hfo_168 : f_162 a_88 = .inl (cI, 1024, .inl g_157) := by rw [ef_162, up_ne (kd_ne ka_26 ka_88 (by decide))]; exact hfo_156
              have hfr0 : ∀ b, kd b ≠ 3 → kd b ≠ 507 → kd b ≠ 525 → kd b ≠ 527 → kd b ≠ 531 → kd b ≠ 532 → f_162 b = f b := fun b q3 q507 q525 q527 q531 q532 => (congrFun ef_162 b).trans ((up_ne (fun e9 => q531 (by rw [e9]; exact ka_26))).trans (hfr0 b q3 q507 q525 q527 q531 q532))
              have hrr3_0 : ∀ b, kd b = 3 → fldR (f_162 b) 0 = fldR (f b) 0 := fun b kb => (congrArg (fun x => fldR x 0) ((congrFun ef_162 b).trans (up_ne (kd_ne ka_26 kb (by decide))))).trans (hrr3_0 b kb)
              have hrr3_3 : ∀ b, kd b = 3 → fldR (f_162 b) 3 = fldR (f b) 3 := fun b kb => (congrArg (fun x => fldR x 3) ((congrFun ef_162 b).trans (up_ne (kd_ne ka_26 kb (by decide))))).trans (hrr3_3 b kb)
              have hfo_169 : f_162 a_26 = .inl (cI, 108, .inl (upd g_160 (Int32.toNatClampNeg x_155) x_158)) := by rw [ef_162]; exact up_self
              obtain ⟨x_170, ex_170⟩ : ∃ y : Int32, y_142 + 1 = y := ⟨_, rfl⟩
              have hx_170 : x_170.toInt = y_142.toInt + 1 := by rw [← ex_170, ad_I (by rw [ti_1]; omega) (by rw [ti_1]; omega), ti_1]
              have bx_170 : (1 ≤ x_170.toInt ∧ x_170.toInt ≤ 9) := by constructor <;> omega
              refine lv_iinc (v := x_170) (lv' := [(6, .int x_170), (5, .int x_92), (4, .int y_16), (3, .int x_2), (0, .ref o0), (1, .ref o1), (2, .int p2)]) hx hb dX6_study_116 hl (k := 0) rfl ex_170 (by decide) rfl (fun ls hl => ?_)
              refine lv_goto (tgt := 84) hx hb dX6_study_119 (by decide) ?_
              exact ih_hloop_141 x_170 (by constructor <;> omega) f_162 hG _ _ hP hS hD hfr0 hrr3_0 hrr3_3 hfo_163 hfo_164 hfo_165 hfo_166 (by omega) ls (lv_sub hl [0, 1, 2, 3, 4, 5, 6] rfl)
        exact hloop_141 10 0 (by decide) f_111 hG _ _ hP hS hD hfr0 hrr3_0 hrr3_3 hfo_112 hfo_113 hfo_114 hfo_115 (by (try rw [ti_0]) <;> omega) ls hl
  exact hloop_15 13 0 (by decide) f hG _ _ hP hS hD hfr0 hrr3_0 hrr3_3 (by (try rw [ti_0]) <;> omega) ls hl
set_option maxHeartbeats 8000000 in
set_option maxRecDepth 100000 in
theorem s_X0_noteSaid_k0_k3 (l : Launch) (D : va_G) (cI cL cZ cR cG cH : ClassId) (Z : zT) (kd : Nat → Nat) (L : List Nat) (f : Nat → va_E) (hG : GI (okc cI cL cZ cR cG cH L kd) kd L f) (o0 : Nat) (mo0 : o0 ∈ L) (ko0 : kd o0 = 0) (o1 : Nat) (mo1 : o1 ∈ L) (ko1 : kd o1 = 3) (p2 : Int32) (bp2 : (0 ≤ p2.toInt ∧ p2.toInt ≤ 72)) : mPV l D cI cL cZ cR cG cH Z yX0_noteSaid cX0_noteSaid 6 none 1 21 [.ref o0, .ref o1, .int p2] L f (fun (f9 : Nat → va_E) => GI (okc cI cL cZ cR cG cH L kd) kd L f9 ∧ (∀ b, kd b ≠ 535 → f9 b = f b)) := by
  obtain ⟨dC, dI⟩ := D
  refine Met.ofW (cc := cX0_noteSaid) (maxL := 6) (ret := none) (by decide) rfl ?_
  intro p e s m args below meth c s₁ B hml hv
  obtain ⟨rfl, hP, hK, hD0, hN, hZ⟩ := hv
  have hx := B.exec
  have hb := B.bytes
  have hr := B.returns
  have hU : ∀ w ∈ wsU, w.before _ s = true := fun w h => atoms_spec (ws := wU yX0_noteSaid cX0_noteSaid 6 none) B.pre w (List.mem_cons_of_mem _ h)
  have hown : s.vm.findClass RX0 = some m.cls := findClass_of_methodNamed B.named
  have hlocks := B.notSynchronized
  have hD := pl_in hD0
  have hS : va_S (fun q => q ∈ L) s.heap s.heap [] := va_S.rf
  have hl := lv_entry ([.ref o0, .ref o1, .int p2]) (n := 6) (Nat.le_of_ble_eq_true rfl)
  rw [lg_entry_eq]
  generalize (lg_sl ([.ref o0, .ref o1, .int p2]) ++ List.replicate (6 - (lg_sl ([.ref o0, .ref o1, .int p2])).length) Slot.unset).toArray = ls at hl ⊢
  have hl : lv_has ls 6 [(0, .ref o0), (1, .ref o1), (2, .int p2)] := hl
  have hfr0 : ∀ b, kd b ≠ 535 → f b = f b := fun _ _ => rfl
  refine lv_iconst (v := 0) hx hb dX0_noteSaid_0 (by decide) ?_
  refine lv_istore_n (lv' := [(3, .int 0), (0, .ref o0), (1, .ref o1), (2, .int p2)]) hx hb dX0_noteSaid_1 rfl hl (by decide) rfl (fun ls hl => ?_)
  have hloop_13 : ∀ (n : Nat), ∀ (y_14 : Int32), (0 ≤ y_14.toInt ∧ y_14.toInt ≤ 1024) → ∀ (f_16 : Nat → va_E), GI (okc cI cL cZ cR cG cH L kd) kd L f_16 → ∀ (H : Heap) (locs : List Loc), va_P (dC, dI) vwCl (va_pl L f_16) H → va_S (fun q => q ∈ L) s.heap H locs → va_D (fun q => q ∈ L) (va_pl L f_16) → (∀ b, kd b ≠ 535 → f_16 b = f b) → 1024 - y_14.toInt < (n : Int) → ∀ (ls : Array Slot), lv_has ls 6 [(3, .int y_14), (0, .ref o0), (1, .ref o1), (2, .int p2)] → W p l e (headSpec (wU yX0_noteSaid cX0_noteSaid 6 none) { frames := 1, cells := 0, slots := 0, locals := 21 }).room s m [.ref o0, .ref o1, .int p2].toArray below meth c H locs 0 0 (MQ below (va_Qv (fun (f9 : Nat → va_E) => GI (okc cI cL cZ cR cG cH L kd) kd L f9 ∧ (∀ b, kd b ≠ 535 → f9 b = f b)) (qP (dC, dI) cI cL cZ cR cG cH L) (fun q => q ∈ L)) [.ref o0, .ref o1, .int p2].toArray s 0 0 (fun q => q ∈ L)) (F0 m 2 ls []) := by
    intro n
    induction n with
    | zero => intro y_14 by_14 f_16 hG H locs hP hS hD hfr0 hmuhloop_13 ls hl; exfalso; omega
    | succ n ih_hloop_13 =>
      intro y_14 by_14 f_16 hG H locs hP hS hD hfr0 hmuhloop_13 ls hl
      refine lv_iload_n hx hb dX0_noteSaid_2 rfl (lv_at hl 0 rfl) ?_
      refine lv_aload_n hx hb dX0_noteSaid_3 rfl (lv_at hl 2 rfl) ?_
      obtain ⟨a_18, a_19, a_20, a_21, a_22, v_23, v_24, v_25, v_26, v_27, v_28, v_29, a_30, a_31, a_32, v_33, a_34, a_35, hfo_17, ⟨ma_18, ka_18⟩, ⟨ma_19, ka_19⟩, ⟨ma_20, ka_20⟩, ⟨ma_21, ka_21⟩, ⟨ma_22, ka_22⟩, bv_23, bv_24, bv_25, ⟨ma_30, ka_30⟩, ⟨ma_31, ka_31⟩, ⟨ma_32, ka_32⟩, bv_33, ⟨ma_34, ka_34⟩, ⟨ma_35, ka_35⟩⟩ := un_3 (hG _ mo1) ko1
      have bv_26 : ((-2147483648) ≤ v_26.toInt ∧ v_26.toInt ≤ 2147483647) := ⟨i32_lo _, i32_hi _⟩
      have bv_27 : ((-2147483648) ≤ v_27.toInt ∧ v_27.toInt ≤ 2147483647) := ⟨i32_lo _, i32_hi _⟩
      have bv_28 : ((-2147483648) ≤ v_28.toInt ∧ v_28.toInt ≤ 2147483647) := ⟨i32_lo _, i32_hi _⟩
      have bv_29 : ((-2147483648) ≤ v_29.toInt ∧ v_29.toInt ≤ 2147483647) := ⟨i32_lo _, i32_hi _⟩
      refine tk_getP (D := (dC, dI)) (ci := 3) (v := .int v_33) (C := RX3) (T := TX3) (N := 18) hx hb hU inlX3 hown hK hP mo1 hfo_17 rfl 15 (by decide) (hU _ wd_1221) (fun _ h9 => h9) rfl dX0_noteSaid_4 ?_
      refine lv_icmp_ge (tgt := 63) hx hb dX0_noteSaid_7 (by decide) (fun c_36 => ?_) (fun c_36 => ?_)
      · skip
        rw [Int32.le_iff_toInt_le] at c_36
        exact W.vret hx hb hr (fun t ht hW => ⟨⟨f_16, rfl, ⟨hG, hfr0⟩, by rw [ht]; exact hP, va_K.moved hW.alike hK, pl_in hD⟩, hS.F ht⟩) hS.2.2 dX0_noteSaid_63
      · skip
        rw [Int32.le_iff_toInt_le] at c_36
        refine lv_aload_n hx hb dX0_noteSaid_10 rfl (lv_at hl 2 rfl) ?_
        refine tk_getP (D := (dC, dI)) (ci := 3) (v := .ref a_31) (C := RX3) (T := TX3) (N := 18) hx hb hU inlX3 hown hK hP mo1 hfo_17 rfl 13 (by decide) (hU _ wd_1222) (fun _ h9 => h9) rfl dX0_noteSaid_11 ?_
        refine lv_iload_n hx hb dX0_noteSaid_14 rfl (lv_at hl 0 rfl) ?_
        obtain ⟨g_38, hfo_37, hbg_38⟩ := un_526 (hG _ ma_31) ka_31
        refine tk_ildP hx hb hK hP 0 ma_31 hfo_37 rfl (vp_in_iff.mpr (by constructor <;> omega)) dX0_noteSaid_15 ?_
        refine lv_topi (fun x_39 ex_39 => ?_)
        have bx_39 : (0 ≤ x_39.toInt ∧ x_39.toInt ≤ 387420488) := by rw [ex_39]; exact hbg_38 _
        refine lv_istore (lv' := [(4, .int x_39), (3, .int y_14), (0, .ref o0), (1, .ref o1), (2, .int p2)]) hx hb dX0_noteSaid_16 hl (by decide) rfl (fun ls hl => ?_)
        refine lv_iload hx hb dX0_noteSaid_18 (lv_at hl 0 rfl) ?_
        refine lv_iconst (v := 2) hx hb dX0_noteSaid_20 (by decide) ?_
        refine tk_SiP (As := [.int x_39, .int 2]) (rest := []) (n := 2) hx hb hml hown hU hN hZ (s_X10_signIn l (dC, dI) cI cL cZ cR cG cH Z kd L f_16 hG x_39 (by constructor <;> omega) 2 (by decide)) wd_1223 wd_988 wd_51 wd_989 (by decide +kernel) ⟨Nat.le_of_ble_eq_true rfl, Nat.le_of_ble_eq_true rfl⟩ hK hP hD hS rfl hl.1 rfl (Nat.le_of_ble_eq_true rfl) dX0_noteSaid_21 ⟨Nat.le_of_ble_eq_true rfl, Nat.le_of_ble_eq_true rfl⟩ (fun x_40 f_41 H locs hw hP hD hS => ?_)
        obtain ⟨rfl, bx_40⟩ := hw
        have hcut_47 : ∀ (f_44 : Nat → va_E), GI (okc cI cL cZ cR cG cH L kd) kd L f_44 → ∀ (H : Heap) (locs : List Loc), va_P (dC, dI) vwCl (va_pl L f_44) H → va_S (fun q => q ∈ L) s.heap H locs → va_D (fun q => q ∈ L) (va_pl L f_44) → (∀ b, kd b ≠ 535 → f_44 b = f b) → (f_44 o1 = .inr (3, [.ref a_18, .ref a_19, .ref a_20, .ref a_21, .ref a_22, .int v_23, .int v_24, .int v_25, .int v_26, .int v_27, .int v_28, .int v_29, .ref a_30, .ref a_31, .ref a_32, .int v_33, .ref a_34, .ref a_35])) → (f_44 a_31 = .inl (cI, 1024, .inl g_38)) → ∀ (ls : Array Slot), lv_has ls 6 [(4, .int x_39), (3, .int y_14), (0, .ref o0), (1, .ref o1), (2, .int p2)] → W p l e (headSpec (wU yX0_noteSaid cX0_noteSaid 6 none) { frames := 1, cells := 0, slots := 0, locals := 21 }).room s m [.ref o0, .ref o1, .int p2].toArray below meth c H locs 0 0 (MQ below (va_Qv (fun (f9 : Nat → va_E) => GI (okc cI cL cZ cR cG cH L kd) kd L f9 ∧ (∀ b, kd b ≠ 535 → f9 b = f b)) (qP (dC, dI) cI cL cZ cR cG cH L) (fun q => q ∈ L)) [.ref o0, .ref o1, .int p2].toArray s 0 0 (fun q => q ∈ L)) (F0 m 57 ls []) := by
          intro f_44 hG H locs hP hS hD hfr0 hfo_45 hfo_46 ls hl
          obtain ⟨x_48, ex_48⟩ : ∃ y : Int32, y_14 + 1 = y := ⟨_, rfl⟩
          have hx_48 : x_48.toInt = y_14.toInt + 1 := by rw [← ex_48, ad_I (by rw [ti_1]; omega) (by rw [ti_1]; omega), ti_1]
          have bx_48 : (1 ≤ x_48.toInt ∧ x_48.toInt ≤ 1024) := by constructor <;> omega
          refine lv_iinc (v := x_48) (lv' := [(3, .int x_48), (4, .int x_39), (0, .ref o0), (1, .ref o1), (2, .int p2)]) hx hb dX0_noteSaid_57 hl (k := 1) rfl ex_48 (by decide) rfl (fun ls hl => ?_)
          refine lv_goto (tgt := 2) hx hb dX0_noteSaid_60 (by decide) ?_
          exact ih_hloop_13 x_48 (by constructor <;> omega) f_44 hG _ _ hP hS hD hfr0 (by omega) ls (lv_sub hl [0, 2, 3, 4] rfl)
        refine lv_if_ne (tgt := 57) hx hb dX0_noteSaid_24 (by decide) (fun c_49 => ?_) (fun c_49 => ?_)
        · skip
          rw [← Int32.toInt_inj, ti_0] at c_49
          exact hcut_47 f_16 hG _ _ hP hS hD hfr0 hfo_17 hfo_37 ls (lv_sub hl [0, 1, 2, 3, 4] rfl)
        · skip
          rw [← Int32.toInt_inj, ti_0] at c_49
          refine lv_iload hx hb dX0_noteSaid_27 (lv_at hl 0 rfl) ?_
          refine lv_iconst (v := 0) hx hb dX0_noteSaid_29 (by decide) ?_
          refine tk_SiP (As := [.int x_39, .int 0]) (rest := []) (n := 2) hx hb hml hown hU hN hZ (s_X10_signIn l (dC, dI) cI cL cZ cR cG cH Z kd L f_16 hG x_39 (by constructor <;> omega) 0 (by decide)) wd_1223 wd_988 wd_51 wd_989 (by decide +kernel) ⟨Nat.le_of_ble_eq_true rfl, Nat.le_of_ble_eq_true rfl⟩ hK hP hD hS rfl hl.1 rfl (Nat.le_of_ble_eq_true rfl) dX0_noteSaid_30 ⟨Nat.le_of_ble_eq_true rfl, Nat.le_of_ble_eq_true rfl⟩ (fun x_50 f_51 H locs hw hP hD hS => ?_)
          obtain ⟨rfl, bx_50⟩ := hw
          refine lv_iload hx hb dX0_noteSaid_33 (lv_at hl 0 rfl) ?_
          refine lv_iconst (v := 1) hx hb dX0_noteSaid_35 (by decide) ?_
          refine tk_SiP (As := [.int x_39, .int 1]) (rest := [.int x_50]) (n := 2) hx hb hml hown hU hN hZ (s_X10_signIn l (dC, dI) cI cL cZ cR cG cH Z kd L f_16 hG x_39 (by constructor <;> omega) 1 (by decide)) wd_1223 wd_988 wd_51 wd_989 (by decide +kernel) ⟨Nat.le_of_ble_eq_true rfl, Nat.le_of_ble_eq_true rfl⟩ hK hP hD hS rfl hl.1 rfl (Nat.le_of_ble_eq_true rfl) dX0_noteSaid_36 ⟨Nat.le_of_ble_eq_true rfl, Nat.le_of_ble_eq_true rfl⟩ (fun x_53 f_54 H locs hw hP hD hS => ?_)
          obtain ⟨rfl, bx_53⟩ := hw
          refine tk_SiP (As := [.int x_50, .int x_53]) (rest := []) (n := 2) hx hb hml hown hU hN hZ (s_X0_numberOf l (dC, dI) cI cL cZ cR cG cH Z kd L f_16 hG x_50 (by constructor <;> omega) x_53 (by constructor <;> omega)) wd_1206 wd_1207 wd_37 wd_1208 (by decide +kernel) ⟨Nat.le_of_ble_eq_true rfl, Nat.le_of_ble_eq_true rfl⟩ hK hP hD hS rfl hl.1 rfl (Nat.le_of_ble_eq_true rfl) dX0_noteSaid_39 ⟨Nat.le_of_ble_eq_true rfl, Nat.le_of_ble_eq_true rfl⟩ (fun x_56 f_57 H locs hw hP hD hS => ?_)
          obtain ⟨rfl, bx_56⟩ := hw
          refine lv_istore (lv' := [(5, .int x_56), (4, .int x_39), (3, .int y_14), (0, .ref o0), (1, .ref o1), (2, .int p2)]) hx hb dX0_noteSaid_42 hl (by decide) rfl (fun ls hl => ?_)
          refine lv_aload_n hx hb dX0_noteSaid_44 rfl (lv_at hl 3 rfl) ?_
          obtain ⟨a_60, a_61, a_62, v_63, a_64, a_65, a_66, v_67, a_68, v_69, v_70, hfo_59, ⟨ma_60, ka_60⟩, ⟨ma_61, ka_61⟩, ⟨ma_62, ka_62⟩, bv_63, ⟨ma_64, ka_64⟩, ⟨ma_65, ka_65⟩, ⟨ma_66, ka_66⟩, ⟨ma_68, ka_68⟩⟩ := un_0 (hG _ mo0) ko0
          have bv_67 : ((-2147483648) ≤ v_67.toInt ∧ v_67.toInt ≤ 2147483647) := ⟨i32_lo _, i32_hi _⟩
          have bv_69 : ((-2147483648) ≤ v_69.toInt ∧ v_69.toInt ≤ 2147483647) := ⟨i32_lo _, i32_hi _⟩
          have bv_70 : ((-2147483648) ≤ v_70.toInt ∧ v_70.toInt ≤ 2147483647) := ⟨i32_lo _, i32_hi _⟩
          refine tk_getP (D := (dC, dI)) (ci := 0) (v := .ref a_61) (C := RX0) (T := TX0) (N := 11) hx hb hU inlX0 hown hK hP mo0 hfo_59 rfl 1 (by decide) (hU _ wd_158) (fun _ h9 => h9) rfl dX0_noteSaid_45 ?_
          refine lv_iload_n hx hb dX0_noteSaid_48 rfl (lv_at hl 5 rfl) ?_
          refine lv_bipush (v := 73) hx hb dX0_noteSaid_49 (by decide) ?_
          refine lv_imul hx hb dX0_noteSaid_51 ?_
          refine lv_topi (fun x_71 ex_71 => ?_)
          have hx_71 : x_71.toInt = p2.toInt * 73 := by rw [ex_71, ml_I (by rw [ti_73]; omega) (by rw [ti_73]; omega), ti_73]
          have bx_71 : (0 ≤ x_71.toInt ∧ x_71.toInt ≤ 5256) := by constructor <;> omega
          refine lv_iload hx hb dX0_noteSaid_52 (lv_at hl 0 rfl) ?_
          refine lv_iadd hx hb dX0_noteSaid_54 ?_
          refine lv_topi (fun x_72 ex_72 => ?_)
          have hx_72 : x_72.toInt = x_71.toInt + x_56.toInt := by rw [ex_72, ad_I (by omega) (by omega)]
          have bx_72 : (0 ≤ x_72.toInt ∧ x_72.toInt ≤ 5328) := by constructor <;> omega
          refine lv_iconst (v := 1) hx hb dX0_noteSaid_55 (by decide) ?_
          obtain ⟨g_74, hfo_73, hbg_74⟩ := un_535 (hG _ ma_61) ka_61
          refine tk_istP hx hb hK hP hD hS 0 ma_61 hfo_73 rfl (vp_in_iff.mpr (by constructor <;> omega)) dX0_noteSaid_56 (fun H locs hP hD hS => ?_)
          obtain ⟨f_76, ef_76⟩ : ∃ y : Nat → va_E, y = va_up f_16 a_61 (.inl (cI, 5329, .inl (upd g_74 (Int32.toNatClampNeg x_72) 1))) := ⟨_, rfl⟩
          have hP : va_P (dC, dI) vwCl (va_pl L f_76) H := by rw [ef_76]; exact hP
          have hD : va_D (fun q => q ∈ L) (va_pl L f_76) := by rw [ef_76]; exact hD
          have hG : GI (okc cI cL cZ cR cG cH L kd) kd L f_76 := by rw [ef_76]; exact hG.set a_61 (mk_535 ka_61 ⟨_, rfl, okI_up hbg_74 (by decide) _⟩)
          have hfo_77 : f_76 o1 = .inr (3, [.ref a_18, .ref a_19, .ref a_20, .ref a_21, .ref a_22, .int v_23, .int v_24, .int v_25, .int v_26, .int v_27, .int v_28, .int v_29, .ref a_30, .ref a_31, .ref a_32, .int v_33, .ref a_34, .ref a_35]) := by rw [ef_76, up_ne (kd_ne ka_61 ko1 (by decide))]; exact hfo_17
          have hfo_78 : f_76 a_31 = .inl (cI, 1024, .inl g_38) := by rw [ef_76, up_ne (kd_ne ka_61 ka_31 (by decide))]; exact hfo_37
          have hfo_79 : f_76 o0 = .inr (0, [.ref a_60, .ref a_61, .ref a_62, .int v_63, .ref a_64, .ref a_65, .ref a_66, .int v_67, .ref a_68, .int v_69, .int v_70]) := by rw [ef_76, up_ne (kd_ne ka_61 ko0 (by decide))]; exact hfo_59
          have hfr0 : ∀ b, kd b ≠ 535 → f_76 b = f b := fun b q535 => (congrFun ef_76 b).trans ((up_ne (fun e9 => q535 (by rw [e9]; exact ka_61))).trans (hfr0 b q535))
          have hfo_80 : f_76 a_61 = .inl (cI, 5329, .inl (upd g_74 (Int32.toNatClampNeg x_72) 1)) := by rw [ef_76]; exact up_self
          exact hcut_47 f_76 hG _ _ hP hS hD hfr0 hfo_77 hfo_78 ls (lv_sub hl [1, 2, 3, 4, 5] rfl)
  exact hloop_13 1025 0 (by decide) f hG _ _ hP hS hD hfr0 (by (try rw [ti_0]) <;> omega) ls hl
set_option maxHeartbeats 8000000 in
set_option maxRecDepth 100000 in
theorem s_X0_tryOrders_k0_c6 (l : Launch) (D : va_G) (cI cL cZ cR cG cH : ClassId) (Z : zT) (kd : Nat → Nat) (L : List Nat) (f : Nat → va_E) (hG : GI (okc cI cL cZ cR cG cH L kd) kd L f) (o0 : Nat) (mo0 : o0 ∈ L) (ko0 : kd o0 = 0) (p2 : Int32) : mPV l D cI cL cZ cR cG cH Z yX0_tryOrders cX0_tryOrders 6 none 2 63 [.ref o0, .int 6, .int p2] L f (fun (f9 : Nat → va_E) => GI (okc cI cL cZ cR cG cH L kd) kd L f9 ∧ (∀ b, kd b ≠ 0 → kd b ≠ 536 → f9 b = f b)) := by
  obtain ⟨dC, dI⟩ := D
  refine Met.ofW (cc := cX0_tryOrders) (maxL := 6) (ret := none) (by decide) rfl ?_
  intro p e s m args below meth c s₁ B hml hv
  obtain ⟨rfl, hP, hK, hD0, hN, hZ⟩ := hv
  have hx := B.exec
  have hb := B.bytes
  have hr := B.returns
  have hU : ∀ w ∈ wsU, w.before _ s = true := fun w h => atoms_spec (ws := wU yX0_tryOrders cX0_tryOrders 6 none) B.pre w (List.mem_cons_of_mem _ h)
  have hown : s.vm.findClass RX0 = some m.cls := findClass_of_methodNamed B.named
  have hlocks := B.notSynchronized
  have hD := pl_in hD0
  have hS : va_S (fun q => q ∈ L) s.heap s.heap [] := va_S.rf
  have hl := lv_entry ([.ref o0, .int 6, .int p2]) (n := 6) (Nat.le_of_ble_eq_true rfl)
  rw [lg_entry_eq]
  generalize (lg_sl ([.ref o0, .int 6, .int p2]) ++ List.replicate (6 - (lg_sl ([.ref o0, .int 6, .int p2])).length) Slot.unset).toArray = ls at hl ⊢
  have hl : lv_has ls 6 [(0, .ref o0), (1, .int 6), (2, .int p2)] := hl
  have bp2 : ((-2147483648) ≤ p2.toInt ∧ p2.toInt ≤ 2147483647) := ⟨i32_lo _, i32_hi _⟩
  have hfr0 : ∀ b, kd b ≠ 0 → kd b ≠ 536 → f b = f b := fun _ _ _ => rfl
  refine lv_iload_n hx hb dX0_tryOrders_0 rfl (lv_at hl 1 rfl) ?_
  refine lv_aload_n hx hb dX0_tryOrders_1 rfl (lv_at hl 0 rfl) ?_
  obtain ⟨a_2, a_3, a_4, v_5, a_6, a_7, a_8, v_9, a_10, v_11, v_12, hfo_1, ⟨ma_2, ka_2⟩, ⟨ma_3, ka_3⟩, ⟨ma_4, ka_4⟩, bv_5, ⟨ma_6, ka_6⟩, ⟨ma_7, ka_7⟩, ⟨ma_8, ka_8⟩, ⟨ma_10, ka_10⟩⟩ := un_0 (hG _ mo0) ko0
  have bv_9 : ((-2147483648) ≤ v_9.toInt ∧ v_9.toInt ≤ 2147483647) := ⟨i32_lo _, i32_hi _⟩
  have bv_11 : ((-2147483648) ≤ v_11.toInt ∧ v_11.toInt ≤ 2147483647) := ⟨i32_lo _, i32_hi _⟩
  have bv_12 : ((-2147483648) ≤ v_12.toInt ∧ v_12.toInt ≤ 2147483647) := ⟨i32_lo _, i32_hi _⟩
  refine tk_getP (D := (dC, dI)) (ci := 0) (v := .int v_5) (C := RX0) (T := TX0) (N := 11) hx hb hU inlX0 hown hK hP mo0 hfo_1 rfl 3 (by decide) (hU _ wd_1195) (fun _ h9 => h9) rfl dX0_tryOrders_2 ?_
  refine lv_icmp_lt (tgt := 14) hx hb dX0_tryOrders_5 (by decide) (fun c_13 => ?_) (fun c_13 => ?_)
  · skip
    rw [Int32.lt_iff_toInt_lt, ti_6] at c_13
    exfalso
    omega
  · skip
    rw [Int32.lt_iff_toInt_lt, ti_6] at c_13
    refine lv_aload_n hx hb dX0_tryOrders_8 rfl (lv_at hl 0 rfl) ?_
    refine lv_iload_n hx hb dX0_tryOrders_9 rfl (lv_at hl 1 rfl) ?_
    refine tk_VvP (As := [.int 6]) (rest := []) (n := 1) hx hb hml hown hU hN hZ (s_X0_judge_k0 l (dC, dI) cI cL cZ cR cG cH Z kd L f hG o0 mo0 ko0 6 (by decide)) wd_1228 wd_1229 wd_1230 wd_37 wd_1231 (by decide +kernel) ⟨Nat.le_of_ble_eq_true rfl, Nat.le_of_ble_eq_true rfl⟩ hK hP hD hS mo0 hfo_1 0 rfl rfl rfl hl.1 rfl (Nat.le_of_ble_eq_true rfl) dX0_tryOrders_10 ⟨Nat.le_of_ble_eq_true rfl, Nat.le_of_ble_eq_true rfl⟩ (fun f_15 H locs hw hP hD hS => ?_)
    obtain ⟨hG, hkc_16⟩ := hw
    have hfr0 : ∀ b, kd b ≠ 0 → kd b ≠ 536 → f_15 b = f b := fun b q0 q536 => (hkc_16 b q0 q536).trans (hfr0 b q0 q536)
    exact W.vret hx hb hr (fun t ht hW => ⟨⟨f_15, rfl, ⟨hG, hfr0⟩, by rw [ht]; exact hP, va_K.moved hW.alike hK, pl_in hD⟩, hS.F ht⟩) hS.2.2 dX0_tryOrders_13
set_option maxHeartbeats 8000000 in
set_option maxRecDepth 100000 in
theorem s_X0_tryOrders_k0_c5 (l : Launch) (D : va_G) (cI cL cZ cR cG cH : ClassId) (Z : zT) (kd : Nat → Nat) (L : List Nat) (f : Nat → va_E) (hG : GI (okc cI cL cZ cR cG cH L kd) kd L f) (o0 : Nat) (mo0 : o0 ∈ L) (ko0 : kd o0 = 0) (p2 : Int32) : mPV l D cI cL cZ cR cG cH Z yX0_tryOrders cX0_tryOrders 6 none 3 88 [.ref o0, .int 5, .int p2] L f (fun (f9 : Nat → va_E) => GI (okc cI cL cZ cR cG cH L kd) kd L f9 ∧ (∀ b, kd b ≠ 0 → kd b ≠ 536 → kd b ≠ 537 → f9 b = f b)) := by
  obtain ⟨dC, dI⟩ := D
  refine Met.ofW (cc := cX0_tryOrders) (maxL := 6) (ret := none) (by decide) rfl ?_
  intro p e s m args below meth c s₁ B hml hv
  obtain ⟨rfl, hP, hK, hD0, hN, hZ⟩ := hv
  have hx := B.exec
  have hb := B.bytes
  have hr := B.returns
  have hU : ∀ w ∈ wsU, w.before _ s = true := fun w h => atoms_spec (ws := wU yX0_tryOrders cX0_tryOrders 6 none) B.pre w (List.mem_cons_of_mem _ h)
  have hown : s.vm.findClass RX0 = some m.cls := findClass_of_methodNamed B.named
  have hlocks := B.notSynchronized
  have hD := pl_in hD0
  have hS : va_S (fun q => q ∈ L) s.heap s.heap [] := va_S.rf
  have hl := lv_entry ([.ref o0, .int 5, .int p2]) (n := 6) (Nat.le_of_ble_eq_true rfl)
  rw [lg_entry_eq]
  generalize (lg_sl ([.ref o0, .int 5, .int p2]) ++ List.replicate (6 - (lg_sl ([.ref o0, .int 5, .int p2])).length) Slot.unset).toArray = ls at hl ⊢
  have hl : lv_has ls 6 [(0, .ref o0), (1, .int 5), (2, .int p2)] := hl
  have bp2 : ((-2147483648) ≤ p2.toInt ∧ p2.toInt ≤ 2147483647) := ⟨i32_lo _, i32_hi _⟩
  have hfr0 : ∀ b, kd b ≠ 0 → kd b ≠ 536 → kd b ≠ 537 → f b = f b := fun _ _ _ _ => rfl
  refine lv_iload_n hx hb dX0_tryOrders_0 rfl (lv_at hl 1 rfl) ?_
  refine lv_aload_n hx hb dX0_tryOrders_1 rfl (lv_at hl 0 rfl) ?_
  obtain ⟨a_2, a_3, a_4, v_5, a_6, a_7, a_8, v_9, a_10, v_11, v_12, hfo_1, ⟨ma_2, ka_2⟩, ⟨ma_3, ka_3⟩, ⟨ma_4, ka_4⟩, bv_5, ⟨ma_6, ka_6⟩, ⟨ma_7, ka_7⟩, ⟨ma_8, ka_8⟩, ⟨ma_10, ka_10⟩⟩ := un_0 (hG _ mo0) ko0
  have bv_9 : ((-2147483648) ≤ v_9.toInt ∧ v_9.toInt ≤ 2147483647) := ⟨i32_lo _, i32_hi _⟩
  have bv_11 : ((-2147483648) ≤ v_11.toInt ∧ v_11.toInt ≤ 2147483647) := ⟨i32_lo _, i32_hi _⟩
  have bv_12 : ((-2147483648) ≤ v_12.toInt ∧ v_12.toInt ≤ 2147483647) := ⟨i32_lo _, i32_hi _⟩
  refine tk_getP (D := (dC, dI)) (ci := 0) (v := .int v_5) (C := RX0) (T := TX0) (N := 11) hx hb hU inlX0 hown hK hP mo0 hfo_1 rfl 3 (by decide) (hU _ wd_1195) (fun _ h9 => h9) rfl dX0_tryOrders_2 ?_
  refine lv_icmp_lt (tgt := 14) hx hb dX0_tryOrders_5 (by decide) (fun c_13 => ?_) (fun c_13 => ?_)
  · skip
    rw [Int32.lt_iff_toInt_lt, ti_5] at c_13
    refine lv_iconst (v := 0) hx hb dX0_tryOrders_14 (by decide) ?_
    refine lv_istore_n (lv' := [(3, .int 0), (0, .ref o0), (1, .int 5), (2, .int p2)]) hx hb dX0_tryOrders_15 rfl hl (by decide) rfl (fun ls hl => ?_)
    have hloop_27 : ∀ (n : Nat), ∀ (y_28 : Int32), (0 ≤ y_28.toInt ∧ y_28.toInt ≤ 6) → ∀ (f_30 : Nat → va_E), GI (okc cI cL cZ cR cG cH L kd) kd L f_30 → ∀ (H : Heap) (locs : List Loc), va_P (dC, dI) vwCl (va_pl L f_30) H → va_S (fun q => q ∈ L) s.heap H locs → va_D (fun q => q ∈ L) (va_pl L f_30) → (∀ b, kd b ≠ 0 → kd b ≠ 536 → kd b ≠ 537 → f_30 b = f b) → 6 - y_28.toInt < (n : Int) → ∀ (ls : Array Slot), lv_has ls 6 [(3, .int y_28), (0, .ref o0), (1, .int 5), (2, .int p2)] → W p l e (headSpec (wU yX0_tryOrders cX0_tryOrders 6 none) { frames := 3, cells := 0, slots := 0, locals := 88 }).room s m [.ref o0, .int 5, .int p2].toArray below meth c H locs 0 0 (MQ below (va_Qv (fun (f9 : Nat → va_E) => GI (okc cI cL cZ cR cG cH L kd) kd L f9 ∧ (∀ b, kd b ≠ 0 → kd b ≠ 536 → kd b ≠ 537 → f9 b = f b)) (qP (dC, dI) cI cL cZ cR cG cH L) (fun q => q ∈ L)) [.ref o0, .int 5, .int p2].toArray s 0 0 (fun q => q ∈ L)) (F0 m 16 ls []) := by
      intro n
      induction n with
      | zero => intro y_28 by_28 f_30 hG H locs hP hS hD hfr0 hmuhloop_27 ls hl; exfalso; omega
      | succ n ih_hloop_27 =>
        intro y_28 by_28 f_30 hG H locs hP hS hD hfr0 hmuhloop_27 ls hl
        refine lv_iload_n hx hb dX0_tryOrders_16 rfl (lv_at hl 0 rfl) ?_
        refine lv_aload_n hx hb dX0_tryOrders_17 rfl (lv_at hl 1 rfl) ?_
        obtain ⟨a_32, a_33, a_34, v_35, a_36, a_37, a_38, v_39, a_40, v_41, v_42, hfo_31, ⟨ma_32, ka_32⟩, ⟨ma_33, ka_33⟩, ⟨ma_34, ka_34⟩, bv_35, ⟨ma_36, ka_36⟩, ⟨ma_37, ka_37⟩, ⟨ma_38, ka_38⟩, ⟨ma_40, ka_40⟩⟩ := un_0 (hG _ mo0) ko0
        have bv_39 : ((-2147483648) ≤ v_39.toInt ∧ v_39.toInt ≤ 2147483647) := ⟨i32_lo _, i32_hi _⟩
        have bv_41 : ((-2147483648) ≤ v_41.toInt ∧ v_41.toInt ≤ 2147483647) := ⟨i32_lo _, i32_hi _⟩
        have bv_42 : ((-2147483648) ≤ v_42.toInt ∧ v_42.toInt ≤ 2147483647) := ⟨i32_lo _, i32_hi _⟩
        refine tk_getP (D := (dC, dI)) (ci := 0) (v := .int v_35) (C := RX0) (T := TX0) (N := 11) hx hb hU inlX0 hown hK hP mo0 hfo_31 rfl 3 (by decide) (hU _ wd_1195) (fun _ h9 => h9) rfl dX0_tryOrders_18 ?_
        refine lv_icmp_ge (tgt := 123) hx hb dX0_tryOrders_21 (by decide) (fun c_43 => ?_) (fun c_43 => ?_)
        · skip
          rw [Int32.le_iff_toInt_le] at c_43
          exact W.vret hx hb hr (fun t ht hW => ⟨⟨f_30, rfl, ⟨hG, hfr0⟩, by rw [ht]; exact hP, va_K.moved hW.alike hK, pl_in hD⟩, hS.F ht⟩) hS.2.2 dX0_tryOrders_123
        · skip
          rw [Int32.le_iff_toInt_le] at c_43
          refine lv_iload_n hx hb dX0_tryOrders_24 rfl (lv_at hl 3 rfl) ?_
          refine lv_iload_n hx hb dX0_tryOrders_25 rfl (lv_at hl 0 rfl) ?_
          refine lv_ishr hx hb dX0_tryOrders_26 ?_
          refine lv_topi (fun x_44 ex_44 => ?_)
          have bx_44 : ((-2147483648) ≤ x_44.toInt ∧ x_44.toInt ≤ 2147483647) := ⟨i32_lo _, i32_hi _⟩
          refine lv_iconst (v := 1) hx hb dX0_tryOrders_27 (by decide) ?_
          refine lv_iand hx hb dX0_tryOrders_28 ?_
          refine lv_topi (fun x_45 ex_45 => ?_)
          have bx_45 : (0 ≤ x_45.toInt ∧ x_45.toInt ≤ 1) := by rw [ex_45]; have h8 := an_C x_44 (m := 1) (by decide); rw [ti_1] at h8; exact h8
          have hcut_48 : ∀ (f_47 : Nat → va_E), GI (okc cI cL cZ cR cG cH L kd) kd L f_47 → ∀ (H : Heap) (locs : List Loc), va_P (dC, dI) vwCl (va_pl L f_47) H → va_S (fun q => q ∈ L) s.heap H locs → va_D (fun q => q ∈ L) (va_pl L f_47) → (∀ b, kd b ≠ 0 → kd b ≠ 536 → kd b ≠ 537 → f_47 b = f b) → ∀ (ls : Array Slot), lv_has ls 6 [(3, .int y_28), (0, .ref o0), (1, .int 5), (2, .int p2)] → W p l e (headSpec (wU yX0_tryOrders cX0_tryOrders 6 none) { frames := 3, cells := 0, slots := 0, locals := 88 }).room s m [.ref o0, .int 5, .int p2].toArray below meth c H locs 0 0 (MQ below (va_Qv (fun (f9 : Nat → va_E) => GI (okc cI cL cZ cR cG cH L kd) kd L f9 ∧ (∀ b, kd b ≠ 0 → kd b ≠ 536 → kd b ≠ 537 → f9 b = f b)) (qP (dC, dI) cI cL cZ cR cG cH L) (fun q => q ∈ L)) [.ref o0, .int 5, .int p2].toArray s 0 0 (fun q => q ∈ L)) (F0 m 117 ls []) := by
            intro f_47 hG H locs hP hS hD hfr0 ls hl
            obtain ⟨x_49, ex_49⟩ : ∃ y : Int32, y_28 + 1 = y := ⟨_, rfl⟩
            have hx_49 : x_49.toInt = y_28.toInt + 1 := by rw [← ex_49, ad_I (by rw [ti_1]; omega) (by rw [ti_1]; omega), ti_1]
            have bx_49 : (1 ≤ x_49.toInt ∧ x_49.toInt ≤ 6) := by constructor <;> omega
            refine lv_iinc (v := x_49) (lv' := [(3, .int x_49), (0, .ref o0), (1, .int 5), (2, .int p2)]) hx hb dX0_tryOrders_117 hl (k := 0) rfl ex_49 (by decide) rfl (fun ls hl => ?_)
            refine lv_goto (tgt := 16) hx hb dX0_tryOrders_120 (by decide) ?_
            exact ih_hloop_27 x_49 (by constructor <;> omega) f_47 hG _ _ hP hS hD hfr0 (by (try rw [ti_5]) <;> omega) ls (lv_sub hl [0, 1, 2, 3] rfl)
          refine lv_if_ne (tgt := 117) hx hb dX0_tryOrders_29 (by decide) (fun c_50 => ?_) (fun c_50 => ?_)
          · skip
            rw [← Int32.toInt_inj, ti_0] at c_50
            exact hcut_48 f_30 hG _ _ hP hS hD hfr0 ls (lv_sub hl [0, 1, 2, 3] rfl)
          · skip
            rw [← Int32.toInt_inj, ti_0] at c_50
            refine lv_aload_n hx hb dX0_tryOrders_32 rfl (lv_at hl 1 rfl) ?_
            refine tk_getP (D := (dC, dI)) (ci := 0) (v := .ref a_36) (C := RX0) (T := TX0) (N := 11) hx hb hU inlX0 hown hK hP mo0 hfo_31 rfl 4 (by decide) (hU _ wd_160) (fun _ h9 => h9) rfl dX0_tryOrders_33 ?_
            refine lv_iload_n hx hb dX0_tryOrders_36 rfl (lv_at hl 2 rfl) ?_
            refine lv_aload_n hx hb dX0_tryOrders_37 rfl (lv_at hl 1 rfl) ?_
            refine tk_getP (D := (dC, dI)) (ci := 0) (v := .ref a_34) (C := RX0) (T := TX0) (N := 11) hx hb hU inlX0 hown hK hP mo0 hfo_31 rfl 2 (by decide) (hU _ wd_159) (fun _ h9 => h9) rfl dX0_tryOrders_38 ?_
            refine lv_iload_n hx hb dX0_tryOrders_41 rfl (lv_at hl 0 rfl) ?_
            obtain ⟨g_52, hfo_51, hbg_52⟩ := un_536 (hG _ ma_34) ka_34
            refine tk_ildP hx hb hK hP 0 ma_34 hfo_51 rfl (vp_in_iff.mpr (by constructor <;> omega)) dX0_tryOrders_42 ?_
            refine lv_topi (fun x_53 ex_53 => ?_)
            have bx_53 : (0 ≤ x_53.toInt ∧ x_53.toInt ≤ 7) := by rw [ex_53]; exact hbg_52 _
            obtain ⟨g_55, hfo_54, hbg_55⟩ := un_536 (hG _ ma_36) ka_36
            refine tk_istP hx hb hK hP hD hS 0 ma_36 hfo_54 rfl (vp_in_nI (n := 5) (by decide) (by decide)) dX0_tryOrders_43 (fun H locs hP hD hS => ?_)
            obtain ⟨f_57, ef_57⟩ : ∃ y : Nat → va_E, y = va_up f_30 a_36 (.inl (cI, 6, .inl (upd g_55 (Int32.toNatClampNeg 5) x_53))) := ⟨_, rfl⟩
            have hP : va_P (dC, dI) vwCl (va_pl L f_57) H := by rw [ef_57]; exact hP
            have hD : va_D (fun q => q ∈ L) (va_pl L f_57) := by rw [ef_57]; exact hD
            have hG : GI (okc cI cL cZ cR cG cH L kd) kd L f_57 := by rw [ef_57]; exact hG.set a_36 (mk_536 ka_36 ⟨_, rfl, okI_up hbg_55 (by constructor <;> omega) _⟩)
            have hfo_58 : f_57 o0 = .inr (0, [.ref a_32, .ref a_33, .ref a_34, .int v_35, .ref a_36, .ref a_37, .ref a_38, .int v_39, .ref a_40, .int v_41, .int v_42]) := by rw [ef_57, up_ne (kd_ne ka_36 ko0 (by decide))]; exact hfo_31
            have hfr0 : ∀ b, kd b ≠ 0 → kd b ≠ 536 → kd b ≠ 537 → f_57 b = f b := fun b q0 q536 q537 => (congrFun ef_57 b).trans ((up_ne (fun e9 => q536 (by rw [e9]; exact ka_36))).trans (hfr0 b q0 q536 q537))
            have hfo_59 : f_57 a_36 = .inl (cI, 6, .inl (upd g_55 (Int32.toNatClampNeg 5) x_53)) := by rw [ef_57]; exact up_self
            refine lv_iconst (v := 0) hx hb dX0_tryOrders_44 (by decide) ?_
            refine lv_istore (lv' := [(4, .int 0), (3, .int y_28), (0, .ref o0), (1, .int 5), (2, .int p2)]) hx hb dX0_tryOrders_45 hl (by decide) rfl (fun ls hl => ?_)
            have hloop_75 : ∀ (n : Nat), ∀ (y_76 : Int32), (0 ≤ y_76.toInt ∧ y_76.toInt ≤ 73) → ∀ (f_78 : Nat → va_E), GI (okc cI cL cZ cR cG cH L kd) kd L f_78 → ∀ (H : Heap) (locs : List Loc), va_P (dC, dI) vwCl (va_pl L f_78) H → va_S (fun q => q ∈ L) s.heap H locs → va_D (fun q => q ∈ L) (va_pl L f_78) → (∀ b, kd b ≠ 0 → kd b ≠ 536 → kd b ≠ 537 → f_78 b = f b) → (f_78 o0 = .inr (0, [.ref a_32, .ref a_33, .ref a_34, .int v_35, .ref a_36, .ref a_37, .ref a_38, .int v_39, .ref a_40, .int v_41, .int v_42])) → 73 - y_76.toInt < (n : Int) → ∀ (ls : Array Slot), lv_has ls 6 [(4, .int y_76), (3, .int y_28), (0, .ref o0), (1, .int 5), (2, .int p2)] → W p l e (headSpec (wU yX0_tryOrders cX0_tryOrders 6 none) { frames := 3, cells := 0, slots := 0, locals := 88 }).room s m [.ref o0, .int 5, .int p2].toArray below meth c H locs 0 0 (MQ below (va_Qv (fun (f9 : Nat → va_E) => GI (okc cI cL cZ cR cG cH L kd) kd L f9 ∧ (∀ b, kd b ≠ 0 → kd b ≠ 536 → kd b ≠ 537 → f9 b = f b)) (qP (dC, dI) cI cL cZ cR cG cH L) (fun q => q ∈ L)) [.ref o0, .int 5, .int p2].toArray s 0 0 (fun q => q ∈ L)) (F0 m 47 ls []) := by
              intro n
              induction n with
              | zero => intro y_76 by_76 f_78 hG H locs hP hS hD hfr0 hfo_79 hmuhloop_75 ls hl; exfalso; omega
              | succ n ih_hloop_75 =>
                intro y_76 by_76 f_78 hG H locs hP hS hD hfr0 hfo_79 hmuhloop_75 ls hl
                refine lv_iload hx hb dX0_tryOrders_47 (lv_at hl 0 rfl) ?_
                refine lv_bipush (v := 73) hx hb dX0_tryOrders_49 (by decide) ?_
                refine lv_icmp_ge (tgt := 105) hx hb dX0_tryOrders_51 (by decide) (fun c_80 => ?_) (fun c_80 => ?_)
                · skip
                  rw [Int32.le_iff_toInt_le, ti_73] at c_80
                  refine lv_aload_n hx hb dX0_tryOrders_105 rfl (lv_at hl 2 rfl) ?_
                  refine lv_iload_n hx hb dX0_tryOrders_106 rfl (lv_at hl 3 rfl) ?_
                  refine lv_iconst (v := 1) hx hb dX0_tryOrders_107 (by decide) ?_
                  refine lv_iadd hx hb dX0_tryOrders_108 ?_
                  refine tk_topi (y := 6) (by decide) ?_
                  refine lv_iload_n hx hb dX0_tryOrders_109 rfl (lv_at hl 4 rfl) ?_
                  refine lv_iconst (v := 1) hx hb dX0_tryOrders_110 (by decide) ?_
                  refine lv_iload_n hx hb dX0_tryOrders_111 rfl (lv_at hl 1 rfl) ?_
                  refine lv_ishl hx hb dX0_tryOrders_112 ?_
                  refine lv_topi (fun x_81 ex_81 => ?_)
                  have bx_81 : (1 ≤ x_81.toInt ∧ x_81.toInt ≤ 128) := by rw [ex_81]; exact sh_7 (by constructor <;> omega)
                  refine lv_ior hx hb dX0_tryOrders_113 ?_
                  refine lv_topi (fun x_82 ex_82 => ?_)
                  have bx_82 : ((-2147483648) ≤ x_82.toInt ∧ x_82.toInt ≤ 2147483647) := ⟨i32_lo _, i32_hi _⟩
                  refine tk_VvP (As := [.int 6, .int x_82]) (rest := []) (n := 2) hx hb hml hown hU hN hZ (s_X0_tryOrders_k0_c6 l (dC, dI) cI cL cZ cR cG cH Z kd L f_78 hG o0 mo0 ko0 x_82) wd_1224 wd_1225 wd_1226 wd_37 wd_1227 (by decide +kernel) ⟨Nat.le_of_ble_eq_true rfl, Nat.le_of_ble_eq_true rfl⟩ hK hP hD hS mo0 hfo_79 0 rfl rfl rfl hl.1 rfl (Nat.le_of_ble_eq_true rfl) dX0_tryOrders_114 ⟨Nat.le_of_ble_eq_true rfl, Nat.le_of_ble_eq_true rfl⟩ (fun f_84 H locs hw hP hD hS => ?_)
                  obtain ⟨hG, hkc_85⟩ := hw
                  have hfr0 : ∀ b, kd b ≠ 0 → kd b ≠ 536 → kd b ≠ 537 → f_84 b = f b := fun b q0 q536 q537 => (hkc_85 b q0 q536).trans (hfr0 b q0 q536 q537)
                  exact hcut_48 f_84 hG _ _ hP hS hD hfr0 ls (lv_sub hl [1, 2, 3, 4] rfl)
                · skip
                  rw [Int32.le_iff_toInt_le, ti_73] at c_80
                  refine lv_aload_n hx hb dX0_tryOrders_54 rfl (lv_at hl 2 rfl) ?_
                  refine tk_getP (D := (dC, dI)) (ci := 0) (v := .ref a_37) (C := RX0) (T := TX0) (N := 11) hx hb hU inlX0 hown hK hP mo0 hfo_79 rfl 5 (by decide) (hU _ wd_161) (fun _ h9 => h9) rfl dX0_tryOrders_55 ?_
                  refine lv_iload_n hx hb dX0_tryOrders_58 rfl (lv_at hl 3 rfl) ?_
                  refine lv_bipush (v := 73) hx hb dX0_tryOrders_59 (by decide) ?_
                  refine lv_imul hx hb dX0_tryOrders_61 ?_
                  refine tk_topi (y := 365) (by decide) ?_
                  refine lv_iload hx hb dX0_tryOrders_62 (lv_at hl 0 rfl) ?_
                  refine lv_iadd hx hb dX0_tryOrders_64 ?_
                  refine lv_topi (fun x_87 ex_87 => ?_)
                  have hx_87 : x_87.toInt = 365 + y_76.toInt := by rw [ex_87, ad_I (by rw [ti_365]; omega) (by rw [ti_365]; omega), ti_365]
                  have bx_87 : (365 ≤ x_87.toInt ∧ x_87.toInt ≤ 437) := by constructor <;> omega
                  obtain ⟨g_89, hfo_88, hbg_89⟩ := un_537 (hG _ ma_37) ka_37
                  refine tk_ildP hx hb hK hP 0 ma_37 hfo_88 rfl (vp_in_iff.mpr (by constructor <;> omega)) dX0_tryOrders_65 ?_
                  refine lv_topi (fun x_90 ex_90 => ?_)
                  have bx_90 : (0 ≤ x_90.toInt ∧ x_90.toInt ≤ 72) := by rw [ex_90]; exact hbg_89 _
                  refine lv_istore (lv' := [(5, .int x_90), (4, .int y_76), (3, .int y_28), (0, .ref o0), (1, .int 5), (2, .int p2)]) hx hb dX0_tryOrders_66 hl (by decide) rfl (fun ls hl => ?_)
                  refine lv_aload_n hx hb dX0_tryOrders_68 rfl (lv_at hl 3 rfl) ?_
                  refine tk_getP (D := (dC, dI)) (ci := 0) (v := .ref a_37) (C := RX0) (T := TX0) (N := 11) hx hb hU inlX0 hown hK hP mo0 hfo_79 rfl 5 (by decide) (hU _ wd_161) (fun _ h9 => h9) rfl dX0_tryOrders_69 ?_
                  refine lv_iload_n hx hb dX0_tryOrders_72 rfl (lv_at hl 4 rfl) ?_
                  refine lv_iconst (v := 1) hx hb dX0_tryOrders_73 (by decide) ?_
                  refine lv_iadd hx hb dX0_tryOrders_74 ?_
                  refine tk_topi (y := 6) (by decide) ?_
                  refine lv_bipush (v := 73) hx hb dX0_tryOrders_75 (by decide) ?_
                  refine lv_imul hx hb dX0_tryOrders_77 ?_
                  refine tk_topi (y := 438) (by decide) ?_
                  refine lv_iload hx hb dX0_tryOrders_78 (lv_at hl 1 rfl) ?_
                  refine lv_iadd hx hb dX0_tryOrders_80 ?_
                  refine lv_topi (fun x_91 ex_91 => ?_)
                  have hx_91 : x_91.toInt = 438 + y_76.toInt := by rw [ex_91, ad_I (by rw [ti_438]; omega) (by rw [ti_438]; omega), ti_438]
                  have bx_91 : (438 ≤ x_91.toInt ∧ x_91.toInt ≤ 510) := by constructor <;> omega
                  refine lv_aload_n hx hb dX0_tryOrders_81 rfl (lv_at hl 3 rfl) ?_
                  refine tk_getP (D := (dC, dI)) (ci := 0) (v := .ref a_32) (C := RX0) (T := TX0) (N := 11) hx hb hU inlX0 hown hK hP mo0 hfo_79 rfl 0 (by decide) (hU _ wd_157) (fun _ h9 => h9) rfl dX0_tryOrders_82 ?_
                  refine lv_aload_n hx hb dX0_tryOrders_85 rfl (lv_at hl 3 rfl) ?_
                  refine tk_getP (D := (dC, dI)) (ci := 0) (v := .ref a_34) (C := RX0) (T := TX0) (N := 11) hx hb hU inlX0 hown hK hP mo0 hfo_79 rfl 2 (by decide) (hU _ wd_159) (fun _ h9 => h9) rfl dX0_tryOrders_86 ?_
                  refine lv_iload_n hx hb dX0_tryOrders_89 rfl (lv_at hl 2 rfl) ?_
                  obtain ⟨g_93, hfo_92, hbg_93⟩ := un_536 (hG _ ma_34) ka_34
                  refine tk_ildP hx hb hK hP 0 ma_34 hfo_92 rfl (vp_in_iff.mpr (by constructor <;> omega)) dX0_tryOrders_90 ?_
                  refine lv_topi (fun x_94 ex_94 => ?_)
                  have bx_94 : (0 ≤ x_94.toInt ∧ x_94.toInt ≤ 7) := by rw [ex_94]; exact hbg_93 _
                  refine lv_bipush (v := 73) hx hb dX0_tryOrders_91 (by decide) ?_
                  refine lv_imul hx hb dX0_tryOrders_93 ?_
                  refine lv_topi (fun x_95 ex_95 => ?_)
                  have hx_95 : x_95.toInt = x_94.toInt * 73 := by rw [ex_95, ml_I (by rw [ti_73]; omega) (by rw [ti_73]; omega), ti_73]
                  have bx_95 : (0 ≤ x_95.toInt ∧ x_95.toInt ≤ 511) := by constructor <;> omega
                  refine lv_iload hx hb dX0_tryOrders_94 (lv_at hl 0 rfl) ?_
                  refine lv_iadd hx hb dX0_tryOrders_96 ?_
                  refine lv_topi (fun x_96 ex_96 => ?_)
                  have hx_96 : x_96.toInt = x_95.toInt + x_90.toInt := by rw [ex_96, ad_I (by omega) (by omega)]
                  have bx_96 : (0 ≤ x_96.toInt ∧ x_96.toInt ≤ 583) := by constructor <;> omega
                  obtain ⟨g_98, hfo_97, hbg_98⟩ := un_534 (hG _ ma_32) ka_32
                  refine tk_ildP hx hb hK hP 0 ma_32 hfo_97 rfl (vp_in_iff.mpr (by constructor <;> omega)) dX0_tryOrders_97 ?_
                  refine lv_topi (fun x_99 ex_99 => ?_)
                  have bx_99 : (0 ≤ x_99.toInt ∧ x_99.toInt ≤ 72) := by rw [ex_99]; exact hbg_98 _
                  refine tk_istP hx hb hK hP hD hS 0 ma_37 hfo_88 rfl (vp_in_iff.mpr (by constructor <;> omega)) dX0_tryOrders_98 (fun H locs hP hD hS => ?_)
                  obtain ⟨f_101, ef_101⟩ : ∃ y : Nat → va_E, y = va_up f_78 a_37 (.inl (cI, 511, .inl (upd g_89 (Int32.toNatClampNeg x_91) x_99))) := ⟨_, rfl⟩
                  have hP : va_P (dC, dI) vwCl (va_pl L f_101) H := by rw [ef_101]; exact hP
                  have hD : va_D (fun q => q ∈ L) (va_pl L f_101) := by rw [ef_101]; exact hD
                  have hG : GI (okc cI cL cZ cR cG cH L kd) kd L f_101 := by rw [ef_101]; exact hG.set a_37 (mk_537 ka_37 ⟨_, rfl, okI_up hbg_89 (by constructor <;> omega) _⟩)
                  have hfo_102 : f_101 o0 = .inr (0, [.ref a_32, .ref a_33, .ref a_34, .int v_35, .ref a_36, .ref a_37, .ref a_38, .int v_39, .ref a_40, .int v_41, .int v_42]) := by rw [ef_101, up_ne (kd_ne ka_37 ko0 (by decide))]; exact hfo_79
                  have hfo_103 : f_101 a_34 = .inl (cI, 6, .inl g_93) := by rw [ef_101, up_ne (kd_ne ka_37 ka_34 (by decide))]; exact hfo_92
                  have hfo_104 : f_101 a_32 = .inl (cI, 584, .inl g_98) := by rw [ef_101, up_ne (kd_ne ka_37 ka_32 (by decide))]; exact hfo_97
                  have hfr0 : ∀ b, kd b ≠ 0 → kd b ≠ 536 → kd b ≠ 537 → f_101 b = f b := fun b q0 q536 q537 => (congrFun ef_101 b).trans ((up_ne (fun e9 => q537 (by rw [e9]; exact ka_37))).trans (hfr0 b q0 q536 q537))
                  have hfo_105 : f_101 a_37 = .inl (cI, 511, .inl (upd g_89 (Int32.toNatClampNeg x_91) x_99)) := by rw [ef_101]; exact up_self
                  obtain ⟨x_106, ex_106⟩ : ∃ y : Int32, y_76 + 1 = y := ⟨_, rfl⟩
                  have hx_106 : x_106.toInt = y_76.toInt + 1 := by rw [← ex_106, ad_I (by rw [ti_1]; omega) (by rw [ti_1]; omega), ti_1]
                  have bx_106 : (1 ≤ x_106.toInt ∧ x_106.toInt ≤ 73) := by constructor <;> omega
                  refine lv_iinc (v := x_106) (lv' := [(4, .int x_106), (5, .int x_90), (3, .int y_28), (0, .ref o0), (1, .int 5), (2, .int p2)]) hx hb dX0_tryOrders_99 hl (k := 1) rfl ex_106 (by decide) rfl (fun ls hl => ?_)
                  refine lv_goto (tgt := 47) hx hb dX0_tryOrders_102 (by decide) ?_
                  exact ih_hloop_75 x_106 (by constructor <;> omega) f_101 hG _ _ hP hS hD hfr0 hfo_102 (by (try rw [ti_5]) <;> omega) ls (lv_sub hl [0, 2, 3, 4, 5] rfl)
            exact hloop_75 74 0 (by decide) f_57 hG _ _ hP hS hD hfr0 hfo_58 (by (try rw [ti_0]) <;> (try rw [ti_5]) <;> omega) ls hl
    exact hloop_27 7 0 (by decide) f hG _ _ hP hS hD hfr0 (by (try rw [ti_0]) <;> (try rw [ti_5]) <;> omega) ls hl
  · skip
    rw [Int32.lt_iff_toInt_lt, ti_5] at c_13
    refine lv_aload_n hx hb dX0_tryOrders_8 rfl (lv_at hl 0 rfl) ?_
    refine lv_iload_n hx hb dX0_tryOrders_9 rfl (lv_at hl 1 rfl) ?_
    refine tk_VvP (As := [.int 5]) (rest := []) (n := 1) hx hb hml hown hU hN hZ (s_X0_judge_k0 l (dC, dI) cI cL cZ cR cG cH Z kd L f hG o0 mo0 ko0 5 (by decide)) wd_1228 wd_1229 wd_1230 wd_37 wd_1231 (by decide +kernel) ⟨Nat.le_of_ble_eq_true rfl, Nat.le_of_ble_eq_true rfl⟩ hK hP hD hS mo0 hfo_1 0 rfl rfl rfl hl.1 rfl (Nat.le_of_ble_eq_true rfl) dX0_tryOrders_10 ⟨Nat.le_of_ble_eq_true rfl, Nat.le_of_ble_eq_true rfl⟩ (fun f_108 H locs hw hP hD hS => ?_)
    obtain ⟨hG, hkc_109⟩ := hw
    have hfr0 : ∀ b, kd b ≠ 0 → kd b ≠ 536 → kd b ≠ 537 → f_108 b = f b := fun b q0 q536 q537 => (hkc_109 b q0 q536).trans (hfr0 b q0 q536 q537)
    exact W.vret hx hb hr (fun t ht hW => ⟨⟨f_108, rfl, ⟨hG, hfr0⟩, by rw [ht]; exact hP, va_K.moved hW.alike hK, pl_in hD⟩, hS.F ht⟩) hS.2.2 dX0_tryOrders_13
