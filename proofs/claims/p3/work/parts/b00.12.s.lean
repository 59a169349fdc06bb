set_option maxHeartbeats 8000000 in
set_option maxRecDepth 100000 in
theorem s_X9_push_k209 (l : Launch) (D : va_G) (cI cL cZ cR cG cH : ClassId) (Z : zT) (kd : Nat → Nat) (L : List Nat) (f : Nat → va_E) (hG : GI (okc cI cL cZ cR cG cH L kd) kd L f) (o0 : Nat) (mo0 : o0 ∈ L) (ko0 : kd o0 = 209) (p1 : Int32) (bp1 : (0 ≤ p1.toInt ∧ p1.toInt ≤ 8)) : mPV l D cI cL cZ cR cG cH Z yX9_push cX9_push 3 none 0 0 [.ref o0, .int p1] L f (fun (f9 : Nat → va_E) => GI (okc cI cL cZ cR cG cH L kd) kd L f9 ∧ (∀ b, kd b ≠ 562 → kd b ≠ 563 → f9 b = f b)) := by
  obtain ⟨dC, dI⟩ := D
  refine Met.ofW (cc := cX9_push) (maxL := 3) (ret := none) (by decide) rfl ?_
  intro p e s m args below meth c s₁ B hml hv
  obtain ⟨rfl, hP, hK, hD0, hN, hZ⟩ := hv
  have hx := B.exec
  have hb := B.bytes
  have hr := B.returns
  have hU : ∀ w ∈ wsU, w.before _ s = true := fun w h => atoms_spec (ws := wU yX9_push cX9_push 3 none) B.pre w (List.mem_cons_of_mem _ h)
  have hown : s.vm.findClass RX9 = some m.cls := findClass_of_methodNamed B.named
  have hlocks := B.notSynchronized
  have hD := pl_in hD0
  have hS : va_S (fun q => q ∈ L) s.heap s.heap [] := va_S.rf
  have hl := lv_entry ([.ref o0, .int p1]) (n := 3) (Nat.le_of_ble_eq_true rfl)
  rw [lg_entry_eq]
  generalize (lg_sl ([.ref o0, .int p1]) ++ List.replicate (3 - (lg_sl ([.ref o0, .int p1])).length) Slot.unset).toArray = ls at hl ⊢
  have hl : lv_has ls 3 [(0, .ref o0), (1, .int p1)] := hl
  have hfr0 : ∀ b, kd b ≠ 562 → kd b ≠ 563 → f b = f b := fun _ _ _ => rfl
  refine lv_aload_n hx hb dX9_push_0 rfl (lv_at hl 0 rfl) ?_
  obtain ⟨a_2, a_3, v_4, hfo_1, ⟨ma_2, ka_2⟩, ⟨ma_3, ka_3⟩, bv_4⟩ := un_209 (hG _ mo0) ko0
  refine tk_getP (D := (dC, dI)) (ci := 9) (v := .int v_4) (C := RX9) (T := TX9) (N := 3) hx hb hU inlX9 hown hK hP mo0 hfo_1 rfl 2 (by decide) (hU _ wd_273) (fun _ h9 => h9) rfl dX9_push_1 ?_
  refine lv_iconst (v := 1) hx hb dX9_push_4 (by decide) ?_
  refine lv_isub hx hb dX9_push_5 ?_
  refine lv_topi (fun x_5 ex_5 => ?_)
  have hx_5 : x_5.toInt = v_4.toInt - 1 := by rw [ex_5, sb_I (by rw [ti_1]; omega) (by rw [ti_1]; omega), ti_1]
  have bx_5 : ((-1) ≤ x_5.toInt ∧ x_5.toInt ≤ 11) := by constructor <;> omega
  refine lv_istore_n (lv' := [(2, .int x_5), (0, .ref o0), (1, .int p1)]) hx hb dX9_push_6 rfl hl (by decide) rfl (fun ls hl => ?_)
  refine lv_iload_n hx hb dX9_push_7 rfl (lv_at hl 0 rfl) ?_
  have hcut_9 : ∀ (f_7 : Nat → va_E), GI (okc cI cL cZ cR cG cH L kd) kd L f_7 → ∀ (H : Heap) (locs : List Loc), va_P (dC, dI) vwCl (va_pl L f_7) H → va_S (fun q => q ∈ L) s.heap H locs → va_D (fun q => q ∈ L) (va_pl L f_7) → (∀ b, kd b ≠ 562 → kd b ≠ 563 → f_7 b = f b) → (f_7 o0 = .inr (9, [.ref a_2, .ref a_3, .int v_4])) → ∀ (ls : Array Slot), lv_has ls 3 [(2, .int x_5), (0, .ref o0), (1, .int p1)] → W p l e (headSpec (wU yX9_push cX9_push 3 none) { frames := 0, cells := 0, slots := 0, locals := 0 }).room s m [.ref o0, .int p1].toArray below meth c H locs 0 0 (MQ below (va_Qv (fun (f9 : Nat → va_E) => GI (okc cI cL cZ cR cG cH L kd) kd L f9 ∧ (∀ b, kd b ≠ 562 → kd b ≠ 563 → f9 b = f b)) (qP (dC, dI) cI cL cZ cR cG cH L) (fun q => q ∈ L)) [.ref o0, .int p1].toArray s 0 0 (fun q => q ∈ L)) (F0 m 49 ls []) := by
    intro f_7 hG H locs hP hS hD hfr0 hfo_8 ls hl
    exact W.vret hx hb hr (fun t ht hW => ⟨⟨f_7, rfl, ⟨hG, hfr0⟩, by rw [ht]; exact hP, va_K.moved hW.alike hK, pl_in hD⟩, hS.F ht⟩) hS.2.2 dX9_push_49
  refine lv_if_lt (tgt := 49) hx hb dX9_push_8 (by decide) (fun c_10 => ?_) (fun c_10 => ?_)
  · skip
    rw [Int32.lt_iff_toInt_lt, ti_0] at c_10
    exact hcut_9 f hG _ _ hP hS hD hfr0 hfo_1 ls (lv_sub hl [0, 1, 2] rfl)
  · skip
    rw [Int32.lt_iff_toInt_lt, ti_0] at c_10
    refine lv_aload_n hx hb dX9_push_11 rfl (lv_at hl 1 rfl) ?_
    refine tk_getP (D := (dC, dI)) (ci := 9) (v := .ref a_3) (C := RX9) (T := TX9) (N := 3) hx hb hU inlX9 hown hK hP mo0 hfo_1 rfl 1 (by decide) (hU _ wd_96) (fun _ h9 => h9) rfl dX9_push_12 ?_
    refine lv_iload_n hx hb dX9_push_15 rfl (lv_at hl 0 rfl) ?_
    obtain ⟨g_12, hfo_11, hbg_12⟩ := un_563 (hG _ ma_3) ka_3
    refine tk_ildP hx hb hK hP 0 ma_3 hfo_11 rfl (vp_in_iff.mpr (by constructor <;> omega)) dX9_push_16 ?_
    refine lv_topi (fun x_13 ex_13 => ?_)
    have bx_13 : (0 ≤ x_13.toInt ∧ x_13.toInt ≤ 8) := by rw [ex_13]; exact hbg_12 _
    refine lv_bipush (v := 8) hx hb dX9_push_17 (by decide) ?_
    refine lv_icmp_ge (tgt := 49) hx hb dX9_push_19 (by decide) (fun c_14 => ?_) (fun c_14 => ?_)
    · skip
      rw [Int32.le_iff_toInt_le, ti_8] at c_14
      exact hcut_9 f hG _ _ hP hS hD hfr0 hfo_1 ls (lv_sub hl [0, 1, 2] rfl)
    · skip
      rw [Int32.le_iff_toInt_le, ti_8] at c_14
      refine lv_aload_n hx hb dX9_push_22 rfl (lv_at hl 1 rfl) ?_
      refine tk_getP (D := (dC, dI)) (ci := 9) (v := .ref a_2) (C := RX9) (T := TX9) (N := 3) hx hb hU inlX9 hown hK hP mo0 hfo_1 rfl 0 (by decide) (hU _ wd_95) (fun _ h9 => h9) rfl dX9_push_23 ?_
      refine lv_iload_n hx hb dX9_push_26 rfl (lv_at hl 0 rfl) ?_
      refine lv_bipush (v := 8) hx hb dX9_push_27 (by decide) ?_
      refine lv_imul hx hb dX9_push_29 ?_
      refine lv_topi (fun x_15 ex_15 => ?_)
      have hx_15 : x_15.toInt = x_5.toInt * 8 := by rw [ex_15, ml_I (by rw [ti_8]; omega) (by rw [ti_8]; omega), ti_8]
      have bx_15 : (0 ≤ x_15.toInt ∧ x_15.toInt ≤ 88) := by constructor <;> omega
      refine lv_aload_n hx hb dX9_push_30 rfl (lv_at hl 1 rfl) ?_
      refine tk_getP (D := (dC, dI)) (ci := 9) (v := .ref a_3) (C := RX9) (T := TX9) (N := 3) hx hb hU inlX9 hown hK hP mo0 hfo_1 rfl 1 (by decide) (hU _ wd_96) (fun _ h9 => h9) rfl dX9_push_31 ?_
      refine lv_iload_n hx hb dX9_push_34 rfl (lv_at hl 0 rfl) ?_
      refine tk_ildP hx hb hK hP 0 ma_3 hfo_11 rfl (vp_in_iff.mpr (by constructor <;> omega)) dX9_push_35 ?_
      refine tk_topi (y := x_13) ex_13.symm ?_
      refine lv_iadd hx hb dX9_push_36 ?_
      refine lv_topi (fun x_16 ex_16 => ?_)
      have hx_16 : x_16.toInt = x_15.toInt + x_13.toInt := by rw [ex_16, ad_I (by omega) (by omega)]
      have bx_16 : (0 ≤ x_16.toInt ∧ x_16.toInt ≤ 95) := by constructor <;> omega
      refine lv_iload_n hx hb dX9_push_37 rfl (lv_at hl 2 rfl) ?_
      obtain ⟨g_18, hfo_17, hbg_18⟩ := un_562 (hG _ ma_2) ka_2
      refine tk_istP hx hb hK hP hD hS 0 ma_2 hfo_17 rfl (vp_in_iff.mpr (by constructor <;> omega)) dX9_push_38 (fun H locs hP hD hS => ?_)
      obtain ⟨f_20, ef_20⟩ : ∃ y : Nat → va_E, y = va_up f a_2 (.inl (cI, 96, .inl (upd g_18 (Int32.toNatClampNeg x_16) p1))) := ⟨_, rfl⟩
      have hP : va_P (dC, dI) vwCl (va_pl L f_20) H := by rw [ef_20]; exact hP
      have hD : va_D (fun q => q ∈ L) (va_pl L f_20) := by rw [ef_20]; exact hD
      have hG : GI (okc cI cL cZ cR cG cH L kd) kd L f_20 := by rw [ef_20]; exact hG.set a_2 (mk_562 ka_2 ⟨_, rfl, okI_up hbg_18 (by constructor <;> omega) _⟩)
      have hfo_21 : f_20 o0 = .inr (9, [.ref a_2, .ref a_3, .int v_4]) := by rw [ef_20, up_ne (kd_ne ka_2 ko0 (by decide))]; exact hfo_1
      have hfo_22 : f_20 a_3 = .inl (cI, 12, .inl g_12) := by rw [ef_20, up_ne (kd_ne ka_2 ka_3 (by decide))]; exact hfo_11
      have hfr0 : ∀ b, kd b ≠ 562 → kd b ≠ 563 → f_20 b = f b := fun b q562 q563 => (congrFun ef_20 b).trans ((up_ne (fun e9 => q562 (by rw [e9]; exact ka_2))).trans (hfr0 b q562 q563))
      have hfo_23 : f_20 a_2 = .inl (cI, 96, .inl (upd g_18 (Int32.toNatClampNeg x_16) p1)) := by rw [ef_20]; exact up_self
      refine lv_aload_n hx hb dX9_push_39 rfl (lv_at hl 1 rfl) ?_
      refine tk_getP (D := (dC, dI)) (ci := 9) (v := .ref a_3) (C := RX9) (T := TX9) (N := 3) hx hb hU inlX9 hown hK hP mo0 hfo_21 rfl 1 (by decide) (hU _ wd_96) (fun _ h9 => h9) rfl dX9_push_40 ?_
      refine lv_iload_n hx hb dX9_push_43 rfl (lv_at hl 0 rfl) ?_
      refine lv_dup2_11 hx hb dX9_push_44 rfl rfl ?_
      refine tk_ildP hx hb hK hP 0 ma_3 hfo_22 rfl (vp_in_iff.mpr (by constructor <;> omega)) dX9_push_45 ?_
      refine tk_topi (y := x_13) ex_13.symm ?_
      refine lv_iconst (v := 1) hx hb dX9_push_46 (by decide) ?_
      refine lv_iadd hx hb dX9_push_47 ?_
      refine lv_topi (fun x_24 ex_24 => ?_)
      have hx_24 : x_24.toInt = x_13.toInt + 1 := by rw [ex_24, ad_I (by rw [ti_1]; omega) (by rw [ti_1]; omega), ti_1]
      have bx_24 : (1 ≤ x_24.toInt ∧ x_24.toInt ≤ 8) := by constructor <;> omega
      refine tk_istP hx hb hK hP hD hS 0 ma_3 hfo_22 rfl (vp_in_iff.mpr (by constructor <;> omega)) dX9_push_48 (fun H locs hP hD hS => ?_)
      obtain ⟨f_26, ef_26⟩ : ∃ y : Nat → va_E, y = va_up f_20 a_3 (.inl (cI, 12, .inl (upd g_12 (Int32.toNatClampNeg x_5) x_24))) := ⟨_, rfl⟩
      have hP : va_P (dC, dI) vwCl (va_pl L f_26) H := by rw [ef_26]; exact hP
      have hD : va_D (fun q => q ∈ L) (va_pl L f_26) := by rw [ef_26]; exact hD
      have hG : GI (okc cI cL cZ cR cG cH L kd) kd L f_26 := by rw [ef_26]; exact hG.set a_3 (mk_563 ka_3 ⟨_, rfl, okI_up hbg_12 (by constructor <;> omega) _⟩)
      have hfo_27 : f_26 o0 = .inr (9, [.ref a_2, .ref a_3, .int v_4]) := by rw [ef_26, up_ne (kd_ne ka_3 ko0 (by decide))]; exact hfo_21
      have hfr0 : ∀ b, kd b ≠ 562 → kd b ≠ 563 → f_26 b = f b := fun b q562 q563 => (congrFun ef_26 b).trans ((up_ne (fun e9 => q563 (by rw [e9]; exact ka_3))).trans (hfr0 b q562 q563))
      have hfo_28 : f_26 a_3 = .inl (cI, 12, .inl (upd g_12 (Int32.toNatClampNeg x_5) x_24)) := by rw [ef_26]; exact up_self
      exact hcut_9 f_26 hG _ _ hP hS hD hfr0 hfo_27 ls (lv_sub hl [0, 1, 2] rfl)
set_option maxHeartbeats 8000000 in
set_option maxRecDepth 100000 in
theorem s_X9_open_k213 (l : Launch) (D : va_G) (cI cL cZ cR cG cH : ClassId) (Z : zT) (kd : Nat → Nat) (L : List Nat) (f : Nat → va_E) (hG : GI (okc cI cL cZ cR cG cH L kd) kd L f) (o0 : Nat) (mo0 : o0 ∈ L) (ko0 : kd o0 = 213) : mPV l D cI cL cZ cR cG cH Z yX9_open cX9_open 1 none 0 0 [.ref o0] L f (fun (f9 : Nat → va_E) => GI (okc cI cL cZ cR cG cH L kd) kd L f9 ∧ (∀ b, kd b ≠ 213 → kd b ≠ 565 → f9 b = f b)) := by
  obtain ⟨dC, dI⟩ := D
  refine Met.ofW (cc := cX9_open) (maxL := 1) (ret := none) (by decide) rfl ?_
  intro p e s m args below meth c s₁ B hml hv
  obtain ⟨rfl, hP, hK, hD0, hN, hZ⟩ := hv
  have hx := B.exec
  have hb := B.bytes
  have hr := B.returns
  have hU : ∀ w ∈ wsU, w.before _ s = true := fun w h => atoms_spec (ws := wU yX9_open cX9_open 1 none) B.pre w (List.mem_cons_of_mem _ h)
  have hown : s.vm.findClass RX9 = some m.cls := findClass_of_methodNamed B.named
  have hlocks := B.notSynchronized
  have hD := pl_in hD0
  have hS : va_S (fun q => q ∈ L) s.heap s.heap [] := va_S.rf
  have hl := lv_entry ([.ref o0]) (n := 1) (Nat.le_of_ble_eq_true rfl)
  rw [lg_entry_eq]
  generalize (lg_sl ([.ref o0]) ++ List.replicate (1 - (lg_sl ([.ref o0])).length) Slot.unset).toArray = ls at hl ⊢
  have hl : lv_has ls 1 [(0, .ref o0)] := hl
  have hfr0 : ∀ b, kd b ≠ 213 → kd b ≠ 565 → f b = f b := fun _ _ _ => rfl
  refine lv_aload_n hx hb dX9_open_0 rfl (lv_at hl 0 rfl) ?_
  obtain ⟨a_2, a_3, v_4, hfo_1, ⟨ma_2, ka_2⟩, ⟨ma_3, ka_3⟩, bv_4⟩ := un_213 (hG _ mo0) ko0
  refine tk_getP (D := (dC, dI)) (ci := 9) (v := .int v_4) (C := RX9) (T := TX9) (N := 3) hx hb hU inlX9 hown hK hP mo0 hfo_1 rfl 2 (by decide) (hU _ wd_273) (fun _ h9 => h9) rfl dX9_open_1 ?_
  refine lv_aload_n hx hb dX9_open_4 rfl (lv_at hl 0 rfl) ?_
  refine tk_getP (D := (dC, dI)) (ci := 9) (v := .ref a_3) (C := RX9) (T := TX9) (N := 3) hx hb hU inlX9 hown hK hP mo0 hfo_1 rfl 1 (by decide) (hU _ wd_96) (fun _ h9 => h9) rfl dX9_open_5 ?_
  obtain ⟨g_6, hfo_5, hbg_6⟩ := un_565 (hG _ ma_3) ka_3
  refine tk_alenP (v := 8) hx hb hK hP 0 ma_3 hfo_5 rfl rfl dX9_open_8 ?_
  have hcut_9 : ∀ (f_8 : Nat → va_E), GI (okc cI cL cZ cR cG cH L kd) kd L f_8 → ∀ (H : Heap) (locs : List Loc), va_P (dC, dI) vwCl (va_pl L f_8) H → va_S (fun q => q ∈ L) s.heap H locs → va_D (fun q => q ∈ L) (va_pl L f_8) → (∀ b, kd b ≠ 213 → kd b ≠ 565 → f_8 b = f b) → ∀ (ls : Array Slot), lv_has ls 1 [(0, .ref o0)] → W p l e (headSpec (wU yX9_open cX9_open 1 none) { frames := 0, cells := 0, slots := 0, locals := 0 }).room s m [.ref o0].toArray below meth c H locs 0 0 (MQ below (va_Qv (fun (f9 : Nat → va_E) => GI (okc cI cL cZ cR cG cH L kd) kd L f9 ∧ (∀ b, kd b ≠ 213 → kd b ≠ 565 → f9 b = f b)) (qP (dC, dI) cI cL cZ cR cG cH L) (fun q => q ∈ L)) [.ref o0].toArray s 0 0 (fun q => q ∈ L)) (F0 m 32 ls []) := by
    intro f_8 hG H locs hP hS hD hfr0 ls hl
    exact W.vret hx hb hr (fun t ht hW => ⟨⟨f_8, rfl, ⟨hG, hfr0⟩, by rw [ht]; exact hP, va_K.moved hW.alike hK, pl_in hD⟩, hS.F ht⟩) hS.2.2 dX9_open_32
  refine lv_icmp_ge (tgt := 32) hx hb dX9_open_9 (by decide) (fun c_10 => ?_) (fun c_10 => ?_)
  · skip
    rw [Int32.le_iff_toInt_le, ti_8] at c_10
    exact hcut_9 f hG _ _ hP hS hD hfr0 ls (lv_sub hl [0] rfl)
  · skip
    rw [Int32.le_iff_toInt_le, ti_8] at c_10
    refine lv_aload_n hx hb dX9_open_12 rfl (lv_at hl 0 rfl) ?_
    refine tk_getP (D := (dC, dI)) (ci := 9) (v := .ref a_3) (C := RX9) (T := TX9) (N := 3) hx hb hU inlX9 hown hK hP mo0 hfo_1 rfl 1 (by decide) (hU _ wd_96) (fun _ h9 => h9) rfl dX9_open_13 ?_
    refine lv_aload_n hx hb dX9_open_16 rfl (lv_at hl 0 rfl) ?_
    refine tk_getP (D := (dC, dI)) (ci := 9) (v := .int v_4) (C := RX9) (T := TX9) (N := 3) hx hb hU inlX9 hown hK hP mo0 hfo_1 rfl 2 (by decide) (hU _ wd_273) (fun _ h9 => h9) rfl dX9_open_17 ?_
    refine lv_iconst (v := 0) hx hb dX9_open_20 (by decide) ?_
    refine tk_istP hx hb hK hP hD hS 0 ma_3 hfo_5 rfl (vp_in_iff.mpr (by constructor <;> omega)) dX9_open_21 (fun H locs hP hD hS => ?_)
    obtain ⟨f_12, ef_12⟩ : ∃ y : Nat → va_E, y = va_up f a_3 (.inl (cI, 8, .inl (upd g_6 (Int32.toNatClampNeg v_4) 0))) := ⟨_, rfl⟩
    have hP : va_P (dC, dI) vwCl (va_pl L f_12) H := by rw [ef_12]; exact hP
    have hD : va_D (fun q => q ∈ L) (va_pl L f_12) := by rw [ef_12]; exact hD
    have hG : GI (okc cI cL cZ cR cG cH L kd) kd L f_12 := by rw [ef_12]; exact hG.set a_3 (mk_565 ka_3 ⟨_, rfl, okI_up hbg_6 (by decide) _⟩)
    have hfo_13 : f_12 o0 = .inr (9, [.ref a_2, .ref a_3, .int v_4]) := by rw [ef_12, up_ne (kd_ne ka_3 ko0 (by decide))]; exact hfo_1
    have hfr0 : ∀ b, kd b ≠ 213 → kd b ≠ 565 → f_12 b = f b := fun b q213 q565 => (congrFun ef_12 b).trans ((up_ne (fun e9 => q565 (by rw [e9]; exact ka_3))).trans (hfr0 b q213 q565))
    have hfo_14 : f_12 a_3 = .inl (cI, 8, .inl (upd g_6 (Int32.toNatClampNeg v_4) 0)) := by rw [ef_12]; exact up_self
    refine lv_aload_n hx hb dX9_open_22 rfl (lv_at hl 0 rfl) ?_
    refine lv_dup hx hb dX9_open_23 rfl ?_
    refine tk_getP (D := (dC, dI)) (ci := 9) (v := .int v_4) (C := RX9) (T := TX9) (N := 3) hx hb hU inlX9 hown hK hP mo0 hfo_13 rfl 2 (by decide) (hU _ wd_273) (fun _ h9 => h9) rfl dX9_open_24 ?_
    refine lv_iconst (v := 1) hx hb dX9_open_27 (by decide) ?_
    refine lv_iadd hx hb dX9_open_28 ?_
    refine lv_topi (fun x_15 ex_15 => ?_)
    have hx_15 : x_15.toInt = v_4.toInt + 1 := by rw [ex_15, ad_I (by rw [ti_1]; omega) (by rw [ti_1]; omega), ti_1]
    have bx_15 : (1 ≤ x_15.toInt ∧ x_15.toInt ≤ 8) := by constructor <;> omega
    refine tk_putP (D := (dC, dI)) (ci := 9) (v := .int x_15) (ty := .int) (C := RX9) (T := TX9) (N := 3) hx hb hU inlX9 tyX9 tyX9_ok nmX9 hown hK hP hD hS mo0 hfo_13 rfl 2 (by decide) (hU _ wd_273) (fun _ h9 => h9) rfl (by decide +kernel) rfl rfl (Nat.le_of_ble_eq_true rfl) dX9_open_29 (fun H locs hP hD hS => ?_)
    obtain ⟨f_17, ef_17⟩ : ∃ y : Nat → va_E, y = va_up f_12 o0 (.inr (9, [.ref a_2, .ref a_3, .int x_15])) := ⟨_, rfl⟩
    have hP : va_P (dC, dI) vwCl (va_pl L f_17) H := by rw [ef_17]; exact hP
    have hD : va_D (fun q => q ∈ L) (va_pl L f_17) := by rw [ef_17]; exact hD
    have hG : GI (okc cI cL cZ cR cG cH L kd) kd L f_17 := by rw [ef_17]; exact hG.set o0 (mk_213 ko0 ⟨a_2, a_3, x_15, rfl, ⟨ma_2, ka_2⟩, ⟨ma_3, ka_3⟩, (by constructor <;> omega)⟩)
    have hfr0 : ∀ b, kd b ≠ 213 → kd b ≠ 565 → f_17 b = f b := fun b q213 q565 => (congrFun ef_17 b).trans ((up_ne (fun e9 => q213 (by rw [e9]; exact ko0))).trans (hfr0 b q213 q565))
    have hfo_18 : f_17 o0 = .inr (9, [.ref a_2, .ref a_3, .int x_15]) := by rw [ef_17]; exact up_self
    exact hcut_9 f_17 hG _ _ hP hS hD hfr0 ls (lv_sub hl [0] rfl)
set_option maxHeartbeats 8000000 in
set_option maxRecDepth 100000 in
theorem s_X9_push_k213 (l : Launch) (D : va_G) (cI cL cZ cR cG cH : ClassId) (Z : zT) (kd : Nat → Nat) (L : List Nat) (f : Nat → va_E) (hG : GI (okc cI cL cZ cR cG cH L kd) kd L f) (o0 : Nat) (mo0 : o0 ∈ L) (ko0 : kd o0 = 213) (p1 : Int32) (bp1 : (0 ≤ p1.toInt ∧ p1.toInt ≤ 8)) : mPV l D cI cL cZ cR cG cH Z yX9_push cX9_push 3 none 0 0 [.ref o0, .int p1] L f (fun (f9 : Nat → va_E) => GI (okc cI cL cZ cR cG cH L kd) kd L f9 ∧ (∀ b, kd b ≠ 564 → kd b ≠ 565 → f9 b = f b)) := by
  obtain ⟨dC, dI⟩ := D
  refine Met.ofW (cc := cX9_push) (maxL := 3) (ret := none) (by decide) rfl ?_
  intro p e s m args below meth c s₁ B hml hv
  obtain ⟨rfl, hP, hK, hD0, hN, hZ⟩ := hv
  have hx := B.exec
  have hb := B.bytes
  have hr := B.returns
  have hU : ∀ w ∈ wsU, w.before _ s = true := fun w h => atoms_spec (ws := wU yX9_push cX9_push 3 none) B.pre w (List.mem_cons_of_mem _ h)
  have hown : s.vm.findClass RX9 = some m.cls := findClass_of_methodNamed B.named
  have hlocks := B.notSynchronized
  have hD := pl_in hD0
  have hS : va_S (fun q => q ∈ L) s.heap s.heap [] := va_S.rf
  have hl := lv_entry ([.ref o0, .int p1]) (n := 3) (Nat.le_of_ble_eq_true rfl)
  rw [lg_entry_eq]
  generalize (lg_sl ([.ref o0, .int p1]) ++ List.replicate (3 - (lg_sl ([.ref o0, .int p1])).length) Slot.unset).toArray = ls at hl ⊢
  have hl : lv_has ls 3 [(0, .ref o0), (1, .int p1)] := hl
  have hfr0 : ∀ b, kd b ≠ 564 → kd b ≠ 565 → f b = f b := fun _ _ _ => rfl
  refine lv_aload_n hx hb dX9_push_0 rfl (lv_at hl 0 rfl) ?_
  obtain ⟨a_2, a_3, v_4, hfo_1, ⟨ma_2, ka_2⟩, ⟨ma_3, ka_3⟩, bv_4⟩ := un_213 (hG _ mo0) ko0
  refine tk_getP (D := (dC, dI)) (ci := 9) (v := .int v_4) (C := RX9) (T := TX9) (N := 3) hx hb hU inlX9 hown hK hP mo0 hfo_1 rfl 2 (by decide) (hU _ wd_273) (fun _ h9 => h9) rfl dX9_push_1 ?_
  refine lv_iconst (v := 1) hx hb dX9_push_4 (by decide) ?_
  refine lv_isub hx hb dX9_push_5 ?_
  refine lv_topi (fun x_5 ex_5 => ?_)
  have hx_5 : x_5.toInt = v_4.toInt - 1 := by rw [ex_5, sb_I (by rw [ti_1]; omega) (by rw [ti_1]; omega), ti_1]
  have bx_5 : ((-1) ≤ x_5.toInt ∧ x_5.toInt ≤ 7) := by constructor <;> omega
  refine lv_istore_n (lv' := [(2, .int x_5), (0, .ref o0), (1, .int p1)]) hx hb dX9_push_6 rfl hl (by decide) rfl (fun ls hl => ?_)
  refine lv_iload_n hx hb dX9_push_7 rfl (lv_at hl 0 rfl) ?_
  have hcut_9 : ∀ (f_7 : Nat → va_E), GI (okc cI cL cZ cR cG cH L kd) kd L f_7 → ∀ (H : Heap) (locs : List Loc), va_P (dC, dI) vwCl (va_pl L f_7) H → va_S (fun q => q ∈ L) s.heap H locs → va_D (fun q => q ∈ L) (va_pl L f_7) → (∀ b, kd b ≠ 564 → kd b ≠ 565 → f_7 b = f b) → (f_7 o0 = .inr (9, [.ref a_2, .ref a_3, .int v_4])) → ∀ (ls : Array Slot), lv_has ls 3 [(2, .int x_5), (0, .ref o0), (1, .int p1)] → W p l e (headSpec (wU yX9_push cX9_push 3 none) { frames := 0, cells := 0, slots := 0, locals := 0 }).room s m [.ref o0, .int p1].toArray below meth c H locs 0 0 (MQ below (va_Qv (fun (f9 : Nat → va_E) => GI (okc cI cL cZ cR cG cH L kd) kd L f9 ∧ (∀ b, kd b ≠ 564 → kd b ≠ 565 → f9 b = f b)) (qP (dC, dI) cI cL cZ cR cG cH L) (fun q => q ∈ L)) [.ref o0, .int p1].toArray s 0 0 (fun q => q ∈ L)) (F0 m 49 ls []) := by
    intro f_7 hG H locs hP hS hD hfr0 hfo_8 ls hl
    exact W.vret hx hb hr (fun t ht hW => ⟨⟨f_7, rfl, ⟨hG, hfr0⟩, by rw [ht]; exact hP, va_K.moved hW.alike hK, pl_in hD⟩, hS.F ht⟩) hS.2.2 dX9_push_49
  refine lv_if_lt (tgt := 49) hx hb dX9_push_8 (by decide) (fun c_10 => ?_) (fun c_10 => ?_)
  · skip
    rw [Int32.lt_iff_toInt_lt, ti_0] at c_10
    exact hcut_9 f hG _ _ hP hS hD hfr0 hfo_1 ls (lv_sub hl [0, 1, 2] rfl)
  · skip
    rw [Int32.lt_iff_toInt_lt, ti_0] at c_10
    refine lv_aload_n hx hb dX9_push_11 rfl (lv_at hl 1 rfl) ?_
    refine tk_getP (D := (dC, dI)) (ci := 9) (v := .ref a_3) (C := RX9) (T := TX9) (N := 3) hx hb hU inlX9 hown hK hP mo0 hfo_1 rfl 1 (by decide) (hU _ wd_96) (fun _ h9 => h9) rfl dX9_push_12 ?_
    refine lv_iload_n hx hb dX9_push_15 rfl (lv_at hl 0 rfl) ?_
    obtain ⟨g_12, hfo_11, hbg_12⟩ := un_565 (hG _ ma_3) ka_3
    refine tk_ildP hx hb hK hP 0 ma_3 hfo_11 rfl (vp_in_iff.mpr (by constructor <;> omega)) dX9_push_16 ?_
    refine lv_topi (fun x_13 ex_13 => ?_)
    have bx_13 : (0 ≤ x_13.toInt ∧ x_13.toInt ≤ 8) := by rw [ex_13]; exact hbg_12 _
    refine lv_bipush (v := 8) hx hb dX9_push_17 (by decide) ?_
    refine lv_icmp_ge (tgt := 49) hx hb dX9_push_19 (by decide) (fun c_14 => ?_) (fun c_14 => ?_)
    · skip
      rw [Int32.le_iff_toInt_le, ti_8] at c_14
      exact hcut_9 f hG _ _ hP hS hD hfr0 hfo_1 ls (lv_sub hl [0, 1, 2] rfl)
    · skip
      rw [Int32.le_iff_toInt_le, ti_8] at c_14
      refine lv_aload_n hx hb dX9_push_22 rfl (lv_at hl 1 rfl) ?_
      refine tk_getP (D := (dC, dI)) (ci := 9) (v := .ref a_2) (C := RX9) (T := TX9) (N := 3) hx hb hU inlX9 hown hK hP mo0 hfo_1 rfl 0 (by decide) (hU _ wd_95) (fun _ h9 => h9) rfl dX9_push_23 ?_
      refine lv_iload_n hx hb dX9_push_26 rfl (lv_at hl 0 rfl) ?_
      refine lv_bipush (v := 8) hx hb dX9_push_27 (by decide) ?_
      refine lv_imul hx hb dX9_push_29 ?_
      refine lv_topi (fun x_15 ex_15 => ?_)
      have hx_15 : x_15.toInt = x_5.toInt * 8 := by rw [ex_15, ml_I (by rw [ti_8]; omega) (by rw [ti_8]; omega), ti_8]
      have bx_15 : (0 ≤ x_15.toInt ∧ x_15.toInt ≤ 56) := by constructor <;> omega
      refine lv_aload_n hx hb dX9_push_30 rfl (lv_at hl 1 rfl) ?_
      refine tk_getP (D := (dC, dI)) (ci := 9) (v := .ref a_3) (C := RX9) (T := TX9) (N := 3) hx hb hU inlX9 hown hK hP mo0 hfo_1 rfl 1 (by decide) (hU _ wd_96) (fun _ h9 => h9) rfl dX9_push_31 ?_
      refine lv_iload_n hx hb dX9_push_34 rfl (lv_at hl 0 rfl) ?_
      refine tk_ildP hx hb hK hP 0 ma_3 hfo_11 rfl (vp_in_iff.mpr (by constructor <;> omega)) dX9_push_35 ?_
      refine tk_topi (y := x_13) ex_13.symm ?_
      refine lv_iadd hx hb dX9_push_36 ?_
      refine lv_topi (fun x_16 ex_16 => ?_)
      have hx_16 : x_16.toInt = x_15.toInt + x_13.toInt := by rw [ex_16, ad_I (by omega) (by omega)]
      have bx_16 : (0 ≤ x_16.toInt ∧ x_16.toInt ≤ 63) := by constructor <;> omega
      refine lv_iload_n hx hb dX9_push_37 rfl (lv_at hl 2 rfl) ?_
      obtain ⟨g_18, hfo_17, hbg_18⟩ := un_564 (hG _ ma_2) ka_2
      refine tk_istP hx hb hK hP hD hS 0 ma_2 hfo_17 rfl (vp_in_iff.mpr (by constructor <;> omega)) dX9_push_38 (fun H locs hP hD hS => ?_)
      obtain ⟨f_20, ef_20⟩ : ∃ y : Nat → va_E, y = va_up f a_2 (.inl (cI, 64, .inl (upd g_18 (Int32.toNatClampNeg x_16) p1))) := ⟨_, rfl⟩
      have hP : va_P (dC, dI) vwCl (va_pl L f_20) H := by rw [ef_20]; exact hP
      have hD : va_D (fun q => q ∈ L) (va_pl L f_20) := by rw [ef_20]; exact hD
      have hG : GI (okc cI cL cZ cR cG cH L kd) kd L f_20 := by rw [ef_20]; exact hG.set a_2 (mk_564 ka_2 ⟨_, rfl, okI_up hbg_18 (by constructor <;> omega) _⟩)
      have hfo_21 : f_20 o0 = .inr (9, [.ref a_2, .ref a_3, .int v_4]) := by rw [ef_20, up_ne (kd_ne ka_2 ko0 (by decide))]; exact hfo_1
      have hfo_22 : f_20 a_3 = .inl (cI, 8, .inl g_12) := by rw [ef_20, up_ne (kd_ne ka_2 ka_3 (by decide))]; exact hfo_11
      have hfr0 : ∀ b, kd b ≠ 564 → kd b ≠ 565 → f_20 b = f b := fun b q564 q565 => (congrFun ef_20 b).trans ((up_ne (fun e9 => q564 (by rw [e9]; exact ka_2))).trans (hfr0 b q564 q565))
      have hfo_23 : f_20 a_2 = .inl (cI, 64, .inl (upd g_18 (Int32.toNatClampNeg x_16) p1)) := by rw [ef_20]; exact up_self
      refine lv_aload_n hx hb dX9_push_39 rfl (lv_at hl 1 rfl) ?_
      refine tk_getP (D := (dC, dI)) (ci := 9) (v := .ref a_3) (C := RX9) (T := TX9) (N := 3) hx hb hU inlX9 hown hK hP mo0 hfo_21 rfl 1 (by decide) (hU _ wd_96) (fun _ h9 => h9) rfl dX9_push_40 ?_
      refine lv_iload_n hx hb dX9_push_43 rfl (lv_at hl 0 rfl) ?_
      refine lv_dup2_11 hx hb dX9_push_44 rfl rfl ?_
      refine tk_ildP hx hb hK hP 0 ma_3 hfo_22 rfl (vp_in_iff.mpr (by constructor <;> omega)) dX9_push_45 ?_
      refine tk_topi (y := x_13) ex_13.symm ?_
      refine lv_iconst (v := 1) hx hb dX9_push_46 (by decide) ?_
      refine lv_iadd hx hb dX9_push_47 ?_
      refine lv_topi (fun x_24 ex_24 => ?_)
      have hx_24 : x_24.toInt = x_13.toInt + 1 := by rw [ex_24, ad_I (by rw [ti_1]; omega) (by rw [ti_1]; omega), ti_1]
      have bx_24 : (1 ≤ x_24.toInt ∧ x_24.toInt ≤ 8) := by constructor <;> omega
      refine tk_istP hx hb hK hP hD hS 0 ma_3 hfo_22 rfl (vp_in_iff.mpr (by constructor <;> omega)) dX9_push_48 (fun H locs hP hD hS => ?_)
      obtain ⟨f_26, ef_26⟩ : ∃ y : Nat → va_E, y = va_up f_20 a_3 (.inl (cI, 8, .inl (upd g_12 (Int32.toNatClampNeg x_5) x_24))) := ⟨_, rfl⟩
      have hP : va_P (dC, dI) vwCl (va_pl L f_26) H := by rw [ef_26]; exact hP
      have hD : va_D (fun q => q ∈ L) (va_pl L f_26) := by rw [ef_26]; exact hD
      have hG : GI (okc cI cL cZ cR cG cH L kd) kd L f_26 := by rw [ef_26]; exact hG.set a_3 (mk_565 ka_3 ⟨_, rfl, okI_up hbg_12 (by constructor <;> omega) _⟩)
      have hfo_27 : f_26 o0 = .inr (9, [.ref a_2, .ref a_3, .int v_4]) := by rw [ef_26, up_ne (kd_ne ka_3 ko0 (by decide))]; exact hfo_21
      have hfr0 : ∀ b, kd b ≠ 564 → kd b ≠ 565 → f_26 b = f b := fun b q564 q565 => (congrFun ef_26 b).trans ((up_ne (fun e9 => q565 (by rw [e9]; exact ka_3))).trans (hfr0 b q564 q565))
      have hfo_28 : f_26 a_3 = .inl (cI, 8, .inl (upd g_12 (Int32.toNatClampNeg x_5) x_24)) := by rw [ef_26]; exact up_self
      exact hcut_9 f_26 hG _ _ hP hS hD hfr0 hfo_27 ls (lv_sub hl [0, 1, 2] rfl)
set_option maxHeartbeats 8000000 in
set_option maxRecDepth 100000 in
theorem s_X9_copyFrom_k9_k209 (l : Launch) (D : va_G) (cI cL cZ cR cG cH : ClassId) (Z : zT) (kd : Nat → Nat) (L : List Nat) (f : Nat → va_E) (hG : GI (okc cI cL cZ cR cG cH L kd) kd L f) (o0 : Nat) (mo0 : o0 ∈ L) (ko0 : kd o0 = 9) (o1 : Nat) (mo1 : o1 ∈ L) (ko1 : kd o1 = 209) : mPV l D cI cL cZ cR cG cH Z yX9_copyFrom cX9_copyFrom 2 none 1 40 [.ref o0, .ref o1] L f (fun (f9 : Nat → va_E) => GI (okc cI cL cZ cR cG cH L kd) kd L f9 ∧ (∀ b, kd b ≠ 9 → kd b ≠ 504 → kd b ≠ 505 → f9 b = f b)) := by
  obtain ⟨dC, dI⟩ := D
  refine Met.ofW (cc := cX9_copyFrom) (maxL := 2) (ret := none) (by decide) rfl ?_
  intro p e s m args below meth c s₁ B hml hv
  obtain ⟨rfl, hP, hK, hD0, hN, hZ⟩ := hv
  have hx := B.exec
  have hb := B.bytes
  have hr := B.returns
  have hU : ∀ w ∈ wsU, w.before _ s = true := fun w h => atoms_spec (ws := wU yX9_copyFrom cX9_copyFrom 2 none) B.pre w (List.mem_cons_of_mem _ h)
  have hown : s.vm.findClass RX9 = some m.cls := findClass_of_methodNamed B.named
  have hlocks := B.notSynchronized
  have hD := pl_in hD0
  have hS : va_S (fun q => q ∈ L) s.heap s.heap [] := va_S.rf
  have hl := lv_entry ([.ref o0, .ref o1]) (n := 2) (Nat.le_of_ble_eq_true rfl)
  rw [lg_entry_eq]
  generalize (lg_sl ([.ref o0, .ref o1]) ++ List.replicate (2 - (lg_sl ([.ref o0, .ref o1])).length) Slot.unset).toArray = ls at hl ⊢
  have hl : lv_has ls 2 [(0, .ref o0), (1, .ref o1)] := hl
  have hfr0 : ∀ b, kd b ≠ 9 → kd b ≠ 504 → kd b ≠ 505 → f b = f b := fun _ _ _ _ => rfl
  refine lv_aload_n hx hb dX9_copyFrom_0 rfl (lv_at hl 1 rfl) ?_
  obtain ⟨a_2, a_3, v_4, hfo_1, ⟨ma_2, ka_2⟩, ⟨ma_3, ka_3⟩, bv_4⟩ := un_209 (hG _ mo1) ko1
  refine tk_getP (D := (dC, dI)) (ci := 9) (v := .ref a_2) (C := RX9) (T := TX9) (N := 3) hx hb hU inlX9 hown hK hP mo1 hfo_1 rfl 0 (by decide) (hU _ wd_95) (fun _ h9 => h9) rfl dX9_copyFrom_1 ?_
  obtain ⟨g_6, hfo_5, hbg_6⟩ := un_562 (hG _ ma_2) ka_2
  refine tk_alenP (v := 96) hx hb hK hP 0 ma_2 hfo_5 rfl rfl dX9_copyFrom_4 ?_
  refine lv_aload_n hx hb dX9_copyFrom_5 rfl (lv_at hl 0 rfl) ?_
  obtain ⟨a_8, a_9, v_10, hfo_7, ⟨ma_8, ka_8⟩, ⟨ma_9, ka_9⟩, bv_10⟩ := un_9 (hG _ mo0) ko0
  refine tk_getP (D := (dC, dI)) (ci := 9) (v := .ref a_8) (C := RX9) (T := TX9) (N := 3) hx hb hU inlX9 hown hK hP mo0 hfo_7 rfl 0 (by decide) (hU _ wd_95) (fun _ h9 => h9) rfl dX9_copyFrom_6 ?_
  obtain ⟨g_12, hfo_11, hbg_12⟩ := un_504 (hG _ ma_8) ka_8
  refine tk_alenP (v := 96) hx hb hK hP 0 ma_8 hfo_11 rfl rfl dX9_copyFrom_9 ?_
  refine lv_icmp_ne (tgt := 57) hx hb dX9_copyFrom_10 (by decide) (fun c9 => absurd (by decide) c9) (fun _ => ?_)
  refine lv_aload_n hx hb dX9_copyFrom_13 rfl (lv_at hl 1 rfl) ?_
  refine tk_getP (D := (dC, dI)) (ci := 9) (v := .ref a_2) (C := RX9) (T := TX9) (N := 3) hx hb hU inlX9 hown hK hP mo1 hfo_1 rfl 0 (by decide) (hU _ wd_95) (fun _ h9 => h9) rfl dX9_copyFrom_14 ?_
  refine lv_iconst (v := 0) hx hb dX9_copyFrom_17 (by decide) ?_
  refine lv_aload_n hx hb dX9_copyFrom_18 rfl (lv_at hl 0 rfl) ?_
  refine tk_getP (D := (dC, dI)) (ci := 9) (v := .ref a_8) (C := RX9) (T := TX9) (N := 3) hx hb hU inlX9 hown hK hP mo0 hfo_7 rfl 0 (by decide) (hU _ wd_95) (fun _ h9 => h9) rfl dX9_copyFrom_19 ?_
  refine lv_iconst (v := 0) hx hb dX9_copyFrom_22 (by decide) ?_
  refine lv_aload_n hx hb dX9_copyFrom_23 rfl (lv_at hl 0 rfl) ?_
  refine tk_getP (D := (dC, dI)) (ci := 9) (v := .ref a_8) (C := RX9) (T := TX9) (N := 3) hx hb hU inlX9 hown hK hP mo0 hfo_7 rfl 0 (by decide) (hU _ wd_95) (fun _ h9 => h9) rfl dX9_copyFrom_24 ?_
  refine tk_alenP (v := 96) hx hb hK hP 0 ma_8 hfo_11 rfl rfl dX9_copyFrom_27 ?_
  refine tk_copyP hx hb (by rw [hml]; exact hl.1.symm) hown (hU _ wd_548) (hU _ wd_253) (hU _ wd_254) (hU _ wd_255) hK hP hD hS 0 ma_2 ma_8 hfo_5 hfo_11 rfl (by decide) (by decide) (by decide) (by decide) (by decide) (Nat.le_of_ble_eq_true rfl) (Nat.le_of_ble_eq_true rfl) dX9_copyFrom_28 (fun H locs hP hD hS => ?_)
  obtain ⟨f_14, ef_14⟩ : ∃ y : Nat → va_E, y = va_up f a_8 (.inl (cI, 96, .inl (va_cpy g_6 g_12 (Int32.toNatClampNeg 0) (Int32.toNatClampNeg 0) (Int32.toNatClampNeg 96)))) := ⟨_, rfl⟩
  have hP : va_P (dC, dI) vwCl (va_pl L f_14) H := by rw [ef_14]; exact hP
  have hD : va_D (fun q => q ∈ L) (va_pl L f_14) := by rw [ef_14]; exact hD
  have hG : GI (okc cI cL cZ cR cG cH L kd) kd L f_14 := by rw [ef_14]; exact hG.set a_8 (mk_504 ka_8 ⟨_, rfl, okI_cpy (fun j => by have := hbg_6 j; constructor <;> omega) hbg_12 _ _ _⟩)
  have hfo_15 : f_14 o1 = .inr (9, [.ref a_2, .ref a_3, .int v_4]) := by rw [ef_14, up_ne (kd_ne ka_8 ko1 (by decide))]; exact hfo_1
  have hfo_16 : f_14 a_2 = .inl (cI, 96, .inl g_6) := by rw [ef_14, up_ne (kd_ne ka_8 ka_2 (by decide))]; exact hfo_5
  have hfo_17 : f_14 o0 = .inr (9, [.ref a_8, .ref a_9, .int v_10]) := by rw [ef_14, up_ne (kd_ne ka_8 ko0 (by decide))]; exact hfo_7
  have hfr0 : ∀ b, kd b ≠ 9 → kd b ≠ 504 → kd b ≠ 505 → f_14 b = f b := fun b q9 q504 q505 => (congrFun ef_14 b).trans ((up_ne (fun e9 => q504 (by rw [e9]; exact ka_8))).trans (hfr0 b q9 q504 q505))
  have hfo_18 : f_14 a_8 = .inl (cI, 96, .inl (va_cpy g_6 g_12 (Int32.toNatClampNeg 0) (Int32.toNatClampNeg 0) (Int32.toNatClampNeg 96))) := by rw [ef_14]; exact up_self
  refine lv_aload_n hx hb dX9_copyFrom_31 rfl (lv_at hl 1 rfl) ?_
  refine tk_getP (D := (dC, dI)) (ci := 9) (v := .ref a_3) (C := RX9) (T := TX9) (N := 3) hx hb hU inlX9 hown hK hP mo1 hfo_15 rfl 1 (by decide) (hU _ wd_96) (fun _ h9 => h9) rfl dX9_copyFrom_32 ?_
  refine lv_iconst (v := 0) hx hb dX9_copyFrom_35 (by decide) ?_
  refine lv_aload_n hx hb dX9_copyFrom_36 rfl (lv_at hl 0 rfl) ?_
  refine tk_getP (D := (dC, dI)) (ci := 9) (v := .ref a_9) (C := RX9) (T := TX9) (N := 3) hx hb hU inlX9 hown hK hP mo0 hfo_17 rfl 1 (by decide) (hU _ wd_96) (fun _ h9 => h9) rfl dX9_copyFrom_37 ?_
  refine lv_iconst (v := 0) hx hb dX9_copyFrom_40 (by decide) ?_
  refine lv_aload_n hx hb dX9_copyFrom_41 rfl (lv_at hl 0 rfl) ?_
  refine tk_getP (D := (dC, dI)) (ci := 9) (v := .ref a_9) (C := RX9) (T := TX9) (N := 3) hx hb hU inlX9 hown hK hP mo0 hfo_17 rfl 1 (by decide) (hU _ wd_96) (fun _ h9 => h9) rfl dX9_copyFrom_42 ?_
  obtain ⟨g_20, hfo_19, hbg_20⟩ := un_505 (hG _ ma_9) ka_9
  refine tk_alenP (v := 12) hx hb hK hP 0 ma_9 hfo_19 rfl rfl dX9_copyFrom_45 ?_
  obtain ⟨g_22, hfo_21, hbg_22⟩ := un_563 (hG _ ma_3) ka_3
  refine tk_copyP hx hb (by rw [hml]; exact hl.1.symm) hown (hU _ wd_548) (hU _ wd_253) (hU _ wd_254) (hU _ wd_255) hK hP hD hS 0 ma_3 ma_9 hfo_21 hfo_19 rfl (by decide) (by decide) (by decide) (by decide) (by decide) (Nat.le_of_ble_eq_true rfl) (Nat.le_of_ble_eq_true rfl) dX9_copyFrom_46 (fun H locs hP hD hS => ?_)
  obtain ⟨f_24, ef_24⟩ : ∃ y : Nat → va_E, y = va_up f_14 a_9 (.inl (cI, 12, .inl (va_cpy g_22 g_20 (Int32.toNatClampNeg 0) (Int32.toNatClampNeg 0) (Int32.toNatClampNeg 12)))) := ⟨_, rfl⟩
  have hP : va_P (dC, dI) vwCl (va_pl L f_24) H := by rw [ef_24]; exact hP
  have hD : va_D (fun q => q ∈ L) (va_pl L f_24) := by rw [ef_24]; exact hD
  have hG : GI (okc cI cL cZ cR cG cH L kd) kd L f_24 := by rw [ef_24]; exact hG.set a_9 (mk_505 ka_9 ⟨_, rfl, okI_cpy (fun j => by have := hbg_22 j; constructor <;> omega) hbg_20 _ _ _⟩)
  have hfo_25 : f_24 o1 = .inr (9, [.ref a_2, .ref a_3, .int v_4]) := by rw [ef_24, up_ne (kd_ne ka_9 ko1 (by decide))]; exact hfo_15
  have hfo_26 : f_24 a_2 = .inl (cI, 96, .inl g_6) := by rw [ef_24, up_ne (kd_ne ka_9 ka_2 (by decide))]; exact hfo_16
  have hfo_27 : f_24 o0 = .inr (9, [.ref a_8, .ref a_9, .int v_10]) := by rw [ef_24, up_ne (kd_ne ka_9 ko0 (by decide))]; exact hfo_17
  have hfo_28 : f_24 a_3 = .inl (cI, 12, .inl g_22) := by rw [ef_24, up_ne (kd_ne ka_9 ka_3 (by decide))]; exact hfo_21
  have hfr0 : ∀ b, kd b ≠ 9 → kd b ≠ 504 → kd b ≠ 505 → f_24 b = f b := fun b q9 q504 q505 => (congrFun ef_24 b).trans ((up_ne (fun e9 => q505 (by rw [e9]; exact ka_9))).trans (hfr0 b q9 q504 q505))
  have hfo_29 : f_24 a_9 = .inl (cI, 12, .inl (va_cpy g_22 g_20 (Int32.toNatClampNeg 0) (Int32.toNatClampNeg 0) (Int32.toNatClampNeg 12))) := by rw [ef_24]; exact up_self
  refine lv_aload_n hx hb dX9_copyFrom_49 rfl (lv_at hl 0 rfl) ?_
  refine lv_aload_n hx hb dX9_copyFrom_50 rfl (lv_at hl 1 rfl) ?_
  refine tk_getP (D := (dC, dI)) (ci := 9) (v := .int v_4) (C := RX9) (T := TX9) (N := 3) hx hb hU inlX9 hown hK hP mo1 hfo_25 rfl 2 (by decide) (hU _ wd_273) (fun _ h9 => h9) rfl dX9_copyFrom_51 ?_
  refine tk_putP (D := (dC, dI)) (ci := 9) (v := .int v_4) (ty := .int) (C := RX9) (T := TX9) (N := 3) hx hb hU inlX9 tyX9 tyX9_ok nmX9 hown hK hP hD hS mo0 hfo_27 rfl 2 (by decide) (hU _ wd_273) (fun _ h9 => h9) rfl (by decide +kernel) rfl rfl (Nat.le_of_ble_eq_true rfl) dX9_copyFrom_54 (fun H locs hP hD hS => ?_)
  obtain ⟨f_31, ef_31⟩ : ∃ y : Nat → va_E, y = va_up f_24 o0 (.inr (9, [.ref a_8, .ref a_9, .int v_4])) := ⟨_, rfl⟩
  have hP : va_P (dC, dI) vwCl (va_pl L f_31) H := by rw [ef_31]; exact hP
  have hD : va_D (fun q => q ∈ L) (va_pl L f_31) := by rw [ef_31]; exact hD
  have hG : GI (okc cI cL cZ cR cG cH L kd) kd L f_31 := by rw [ef_31]; exact hG.set o0 (mk_9 ko0 ⟨a_8, a_9, v_4, rfl, ⟨ma_8, ka_8⟩, ⟨ma_9, ka_9⟩, (by constructor <;> omega)⟩)
  have hfo_32 : f_31 o1 = .inr (9, [.ref a_2, .ref a_3, .int v_4]) := by rw [ef_31, up_ne (kd_ne ko0 ko1 (by decide))]; exact hfo_25
  have hfo_33 : f_31 a_2 = .inl (cI, 96, .inl g_6) := by rw [ef_31, up_ne (kd_ne ko0 ka_2 (by decide))]; exact hfo_26
  have hfo_34 : f_31 a_3 = .inl (cI, 12, .inl g_22) := by rw [ef_31, up_ne (kd_ne ko0 ka_3 (by decide))]; exact hfo_28
  have hfr0 : ∀ b, kd b ≠ 9 → kd b ≠ 504 → kd b ≠ 505 → f_31 b = f b := fun b q9 q504 q505 => (congrFun ef_31 b).trans ((up_ne (fun e9 => q9 (by rw [e9]; exact ko0))).trans (hfr0 b q9 q504 q505))
  have hfo_35 : f_31 o0 = .inr (9, [.ref a_8, .ref a_9, .int v_4]) := by rw [ef_31]; exact up_self
  exact W.vret hx hb hr (fun t ht hW => ⟨⟨f_31, rfl, ⟨hG, hfr0⟩, by rw [ht]; exact hP, va_K.moved hW.alike hK, pl_in hD⟩, hS.F ht⟩) hS.2.2 dX9_copyFrom_57
set_option maxHeartbeats 8000000 in
set_option maxRecDepth 100000 in
theorem s_X9_copyFrom_k109_k9 (l : Launch) (D : va_G) (cI cL cZ cR cG cH : ClassId) (Z : zT) (kd : Nat → Nat) (L : List Nat) (f : Nat → va_E) (hG : GI (okc cI cL cZ cR cG cH L kd) kd L f) (o0 : Nat) (mo0 : o0 ∈ L) (ko0 : kd o0 = 109) (o1 : Nat) (mo1 : o1 ∈ L) (ko1 : kd o1 = 9) : mPV l D cI cL cZ cR cG cH Z yX9_copyFrom cX9_copyFrom 2 none 1 40 [.ref o0, .ref o1] L f (fun (f9 : Nat → va_E) => GI (okc cI cL cZ cR cG cH L kd) kd L f9 ∧ (∀ b, kd b ≠ 109 → kd b ≠ 545 → kd b ≠ 546 → f9 b = f b)) := by
  obtain ⟨dC, dI⟩ := D
  refine Met.ofW (cc := cX9_copyFrom) (maxL := 2) (ret := none) (by decide) rfl ?_
  intro p e s m args below meth c s₁ B hml hv
  obtain ⟨rfl, hP, hK, hD0, hN, hZ⟩ := hv
  have hx := B.exec
  have hb := B.bytes
  have hr := B.returns
  have hU : ∀ w ∈ wsU, w.before _ s = true := fun w h => atoms_spec (ws := wU yX9_copyFrom cX9_copyFrom 2 none) B.pre w (List.mem_cons_of_mem _ h)
  have hown : s.vm.findClass RX9 = some m.cls := findClass_of_methodNamed B.named
  have hlocks := B.notSynchronized
  have hD := pl_in hD0
  have hS : va_S (fun q => q ∈ L) s.heap s.heap [] := va_S.rf
  have hl := lv_entry ([.ref o0, .ref o1]) (n := 2) (Nat.le_of_ble_eq_true rfl)
  rw [lg_entry_eq]
  generalize (lg_sl ([.ref o0, .ref o1]) ++ List.replicate (2 - (lg_sl ([.ref o0, .ref o1])).length) Slot.unset).toArray = ls at hl ⊢
  have hl : lv_has ls 2 [(0, .ref o0), (1, .ref o1)] := hl
  have hfr0 : ∀ b, kd b ≠ 109 → kd b ≠ 545 → kd b ≠ 546 → f b = f b := fun _ _ _ _ => rfl
  refine lv_aload_n hx hb dX9_copyFrom_0 rfl (lv_at hl 1 rfl) ?_
  obtain ⟨a_2, a_3, v_4, hfo_1, ⟨ma_2, ka_2⟩, ⟨ma_3, ka_3⟩, bv_4⟩ := un_9 (hG _ mo1) ko1
  refine tk_getP (D := (dC, dI)) (ci := 9) (v := .ref a_2) (C := RX9) (T := TX9) (N := 3) hx hb hU inlX9 hown hK hP mo1 hfo_1 rfl 0 (by decide) (hU _ wd_95) (fun _ h9 => h9) rfl dX9_copyFrom_1 ?_
  obtain ⟨g_6, hfo_5, hbg_6⟩ := un_504 (hG _ ma_2) ka_2
  refine tk_alenP (v := 96) hx hb hK hP 0 ma_2 hfo_5 rfl rfl dX9_copyFrom_4 ?_
  refine lv_aload_n hx hb dX9_copyFrom_5 rfl (lv_at hl 0 rfl) ?_
  obtain ⟨a_8, a_9, v_10, hfo_7, ⟨ma_8, ka_8⟩, ⟨ma_9, ka_9⟩, bv_10⟩ := un_109 (hG _ mo0) ko0
  refine tk_getP (D := (dC, dI)) (ci := 9) (v := .ref a_8) (C := RX9) (T := TX9) (N := 3) hx hb hU inlX9 hown hK hP mo0 hfo_7 rfl 0 (by decide) (hU _ wd_95) (fun _ h9 => h9) rfl dX9_copyFrom_6 ?_
  obtain ⟨g_12, hfo_11, hbg_12⟩ := un_545 (hG _ ma_8) ka_8
  refine tk_alenP (v := 96) hx hb hK hP 0 ma_8 hfo_11 rfl rfl dX9_copyFrom_9 ?_
  refine lv_icmp_ne (tgt := 57) hx hb dX9_copyFrom_10 (by decide) (fun c9 => absurd (by decide) c9) (fun _ => ?_)
  refine lv_aload_n hx hb dX9_copyFrom_13 rfl (lv_at hl 1 rfl) ?_
  refine tk_getP (D := (dC, dI)) (ci := 9) (v := .ref a_2) (C := RX9) (T := TX9) (N := 3) hx hb hU inlX9 hown hK hP mo1 hfo_1 rfl 0 (by decide) (hU _ wd_95) (fun _ h9 => h9) rfl dX9_copyFrom_14 ?_
  refine lv_iconst (v := 0) hx hb dX9_copyFrom_17 (by decide) ?_
  refine lv_aload_n hx hb dX9_copyFrom_18 rfl (lv_at hl 0 rfl) ?_
  refine tk_getP (D := (dC, dI)) (ci := 9) (v := .ref a_8) (C := RX9) (T := TX9) (N := 3) hx hb hU inlX9 hown hK hP mo0 hfo_7 rfl 0 (by decide) (hU _ wd_95) (fun _ h9 => h9) rfl dX9_copyFrom_19 ?_
  refine lv_iconst (v := 0) hx hb dX9_copyFrom_22 (by decide) ?_
  refine lv_aload_n hx hb dX9_copyFrom_23 rfl (lv_at hl 0 rfl) ?_
  refine tk_getP (D := (dC, dI)) (ci := 9) (v := .ref a_8) (C := RX9) (T := TX9) (N := 3) hx hb hU inlX9 hown hK hP mo0 hfo_7 rfl 0 (by decide) (hU _ wd_95) (fun _ h9 => h9) rfl dX9_copyFrom_24 ?_
  refine tk_alenP (v := 96) hx hb hK hP 0 ma_8 hfo_11 rfl rfl dX9_copyFrom_27 ?_
  refine tk_copyP hx hb (by rw [hml]; exact hl.1.symm) hown (hU _ wd_548) (hU _ wd_253) (hU _ wd_254) (hU _ wd_255) hK hP hD hS 0 ma_2 ma_8 hfo_5 hfo_11 rfl (by decide) (by decide) (by decide) (by decide) (by decide) (Nat.le_of_ble_eq_true rfl) (Nat.le_of_ble_eq_true rfl) dX9_copyFrom_28 (fun H locs hP hD hS => ?_)
  obtain ⟨f_14, ef_14⟩ : ∃ y : Nat → va_E, y = va_up f a_8 (.inl (cI, 96, .inl (va_cpy g_6 g_12 (Int32.toNatClampNeg 0) (Int32.toNatClampNeg 0) (Int32.toNatClampNeg 96)))) := ⟨_, rfl⟩
  have hP : va_P (dC, dI) vwCl (va_pl L f_14) H := by rw [ef_14]; exact hP
  have hD : va_D (fun q => q ∈ L) (va_pl L f_14) := by rw [ef_14]; exact hD
  have hG : GI (okc cI cL cZ cR cG cH L kd) kd L f_14 := by rw [ef_14]; exact hG.set a_8 (mk_545 ka_8 ⟨_, rfl, okI_cpy (fun j => by have := hbg_6 j; constructor <;> omega) hbg_12 _ _ _⟩)
  have hfo_15 : f_14 o1 = .inr (9, [.ref a_2, .ref a_3, .int v_4]) := by rw [ef_14, up_ne (kd_ne ka_8 ko1 (by decide))]; exact hfo_1
  have hfo_16 : f_14 a_2 = .inl (cI, 96, .inl g_6) := by rw [ef_14, up_ne (kd_ne ka_8 ka_2 (by decide))]; exact hfo_5
  have hfo_17 : f_14 o0 = .inr (9, [.ref a_8, .ref a_9, .int v_10]) := by rw [ef_14, up_ne (kd_ne ka_8 ko0 (by decide))]; exact hfo_7
  have hfr0 : ∀ b, kd b ≠ 109 → kd b ≠ 545 → kd b ≠ 546 → f_14 b = f b := fun b q109 q545 q546 => (congrFun ef_14 b).trans ((up_ne (fun e9 => q545 (by rw [e9]; exact ka_8))).trans (hfr0 b q109 q545 q546))
  have hfo_18 : f_14 a_8 = .inl (cI, 96, .inl (va_cpy g_6 g_12 (Int32.toNatClampNeg 0) (Int32.toNatClampNeg 0) (Int32.toNatClampNeg 96))) := by rw [ef_14]; exact up_self
  refine lv_aload_n hx hb dX9_copyFrom_31 rfl (lv_at hl 1 rfl) ?_
  refine tk_getP (D := (dC, dI)) (ci := 9) (v := .ref a_3) (C := RX9) (T := TX9) (N := 3) hx hb hU inlX9 hown hK hP mo1 hfo_15 rfl 1 (by decide) (hU _ wd_96) (fun _ h9 => h9) rfl dX9_copyFrom_32 ?_
  refine lv_iconst (v := 0) hx hb dX9_copyFrom_35 (by decide) ?_
  refine lv_aload_n hx hb dX9_copyFrom_36 rfl (lv_at hl 0 rfl) ?_
  refine tk_getP (D := (dC, dI)) (ci := 9) (v := .ref a_9) (C := RX9) (T := TX9) (N := 3) hx hb hU inlX9 hown hK hP mo0 hfo_17 rfl 1 (by decide) (hU _ wd_96) (fun _ h9 => h9) rfl dX9_copyFrom_37 ?_
  refine lv_iconst (v := 0) hx hb dX9_copyFrom_40 (by decide) ?_
  refine lv_aload_n hx hb dX9_copyFrom_41 rfl (lv_at hl 0 rfl) ?_
  refine tk_getP (D := (dC, dI)) (ci := 9) (v := .ref a_9) (C := RX9) (T := TX9) (N := 3) hx hb hU inlX9 hown hK hP mo0 hfo_17 rfl 1 (by decide) (hU _ wd_96) (fun _ h9 => h9) rfl dX9_copyFrom_42 ?_
  obtain ⟨g_20, hfo_19, hbg_20⟩ := un_546 (hG _ ma_9) ka_9
  refine tk_alenP (v := 12) hx hb hK hP 0 ma_9 hfo_19 rfl rfl dX9_copyFrom_45 ?_
  obtain ⟨g_22, hfo_21, hbg_22⟩ := un_505 (hG _ ma_3) ka_3
  refine tk_copyP hx hb (by rw [hml]; exact hl.1.symm) hown (hU _ wd_548) (hU _ wd_253) (hU _ wd_254) (hU _ wd_255) hK hP hD hS 0 ma_3 ma_9 hfo_21 hfo_19 rfl (by decide) (by decide) (by decide) (by decide) (by decide) (Nat.le_of_ble_eq_true rfl) (Nat.le_of_ble_eq_true rfl) dX9_copyFrom_46 (fun H locs hP hD hS => ?_)
  obtain ⟨f_24, ef_24⟩ : ∃ y : Nat → va_E, y = va_up f_14 a_9 (.inl (cI, 12, .inl (va_cpy g_22 g_20 (Int32.toNatClampNeg 0) (Int32.toNatClampNeg 0) (Int32.toNatClampNeg 12)))) := ⟨_, rfl⟩
  have hP : va_P (dC, dI) vwCl (va_pl L f_24) H := by rw [ef_24]; exact hP
  have hD : va_D (fun q => q ∈ L) (va_pl L f_24) := by rw [ef_24]; exact hD
  have hG : GI (okc cI cL cZ cR cG cH L kd) kd L f_24 := by rw [ef_24]; exact hG.set a_9 (mk_546 ka_9 ⟨_, rfl, okI_cpy (fun j => by have := hbg_22 j; constructor <;> omega) hbg_20 _ _ _⟩)
  have hfo_25 : f_24 o1 = .inr (9, [.ref a_2, .ref a_3, .int v_4]) := by rw [ef_24, up_ne (kd_ne ka_9 ko1 (by decide))]; exact hfo_15
  have hfo_26 : f_24 a_2 = .inl (cI, 96, .inl g_6) := by rw [ef_24, up_ne (kd_ne ka_9 ka_2 (by decide))]; exact hfo_16
  have hfo_27 : f_24 o0 = .inr (9, [.ref a_8, .ref a_9, .int v_10]) := by rw [ef_24, up_ne (kd_ne ka_9 ko0 (by decide))]; exact hfo_17
  have hfo_28 : f_24 a_3 = .inl (cI, 12, .inl g_22) := by rw [ef_24, up_ne (kd_ne ka_9 ka_3 (by decide))]; exact hfo_21
  have hfr0 : ∀ b, kd b ≠ 109 → kd b ≠ 545 → kd b ≠ 546 → f_24 b = f b := fun b q109 q545 q546 => (congrFun ef_24 b).trans ((up_ne (fun e9 => q546 (by rw [e9]; exact ka_9))).trans (hfr0 b q109 q545 q546))
  have hfo_29 : f_24 a_9 = .inl (cI, 12, .inl (va_cpy g_22 g_20 (Int32.toNatClampNeg 0) (Int32.toNatClampNeg 0) (Int32.toNatClampNeg 12))) := by rw [ef_24]; exact up_self
  refine lv_aload_n hx hb dX9_copyFrom_49 rfl (lv_at hl 0 rfl) ?_
  refine lv_aload_n hx hb dX9_copyFrom_50 rfl (lv_at hl 1 rfl) ?_
  refine tk_getP (D := (dC, dI)) (ci := 9) (v := .int v_4) (C := RX9) (T := TX9) (N := 3) hx hb hU inlX9 hown hK hP mo1 hfo_25 rfl 2 (by decide) (hU _ wd_273) (fun _ h9 => h9) rfl dX9_copyFrom_51 ?_
  refine tk_putP (D := (dC, dI)) (ci := 9) (v := .int v_4) (ty := .int) (C := RX9) (T := TX9) (N := 3) hx hb hU inlX9 tyX9 tyX9_ok nmX9 hown hK hP hD hS mo0 hfo_27 rfl 2 (by decide) (hU _ wd_273) (fun _ h9 => h9) rfl (by decide +kernel) rfl rfl (Nat.le_of_ble_eq_true rfl) dX9_copyFrom_54 (fun H locs hP hD hS => ?_)
  obtain ⟨f_31, ef_31⟩ : ∃ y : Nat → va_E, y = va_up f_24 o0 (.inr (9, [.ref a_8, .ref a_9, .int v_4])) := ⟨_, rfl⟩
  have hP : va_P (dC, dI) vwCl (va_pl L f_31) H := by rw [ef_31]; exact hP
  have hD : va_D (fun q => q ∈ L) (va_pl L f_31) := by rw [ef_31]; exact hD
  have hG : GI (okc cI cL cZ cR cG cH L kd) kd L f_31 := by rw [ef_31]; exact hG.set o0 (mk_109 ko0 ⟨a_8, a_9, v_4, rfl, ⟨ma_8, ka_8⟩, ⟨ma_9, ka_9⟩, (by constructor <;> omega)⟩)
  have hfo_32 : f_31 o1 = .inr (9, [.ref a_2, .ref a_3, .int v_4]) := by rw [ef_31, up_ne (kd_ne ko0 ko1 (by decide))]; exact hfo_25
  have hfo_33 : f_31 a_2 = .inl (cI, 96, .inl g_6) := by rw [ef_31, up_ne (kd_ne ko0 ka_2 (by decide))]; exact hfo_26
  have hfo_34 : f_31 a_3 = .inl (cI, 12, .inl g_22) := by rw [ef_31, up_ne (kd_ne ko0 ka_3 (by decide))]; exact hfo_28
  have hfr0 : ∀ b, kd b ≠ 109 → kd b ≠ 545 → kd b ≠ 546 → f_31 b = f b := fun b q109 q545 q546 => (congrFun ef_31 b).trans ((up_ne (fun e9 => q109 (by rw [e9]; exact ko0))).trans (hfr0 b q109 q545 q546))
  have hfo_35 : f_31 o0 = .inr (9, [.ref a_8, .ref a_9, .int v_4]) := by rw [ef_31]; exact up_self
  exact W.vret hx hb hr (fun t ht hW => ⟨⟨f_31, rfl, ⟨hG, hfr0⟩, by rw [ht]; exact hP, va_K.moved hW.alike hK, pl_in hD⟩, hS.F ht⟩) hS.2.2 dX9_copyFrom_57
set_option maxHeartbeats 8000000 in
set_option maxRecDepth 100000 in
theorem s_X9_copyFrom_k9_k109 (l : Launch) (D : va_G) (cI cL cZ cR cG cH : ClassId) (Z : zT) (kd : Nat → Nat) (L : List Nat) (f : Nat → va_E) (hG : GI (okc cI cL cZ cR cG cH L kd) kd L f) (o0 : Nat) (mo0 : o0 ∈ L) (ko0 : kd o0 = 9) (o1 : Nat) (mo1 : o1 ∈ L) (ko1 : kd o1 = 109) : mPV l D cI cL cZ cR cG cH Z yX9_copyFrom cX9_copyFrom 2 none 1 40 [.ref o0, .ref o1] L f (fun (f9 : Nat → va_E) => GI (okc cI cL cZ cR cG cH L kd) kd L f9 ∧ (∀ b, kd b ≠ 9 → kd b ≠ 504 → kd b ≠ 505 → f9 b = f b)) := by
  obtain ⟨dC, dI⟩ := D
  refine Met.ofW (cc := cX9_copyFrom) (maxL := 2) (ret := none) (by decide) rfl ?_
  intro p e s m args below meth c s₁ B hml hv
  obtain ⟨rfl, hP, hK, hD0, hN, hZ⟩ := hv
  have hx := B.exec
  have hb := B.bytes
  have hr := B.returns
  have hU : ∀ w ∈ wsU, w.before _ s = true := fun w h => atoms_spec (ws := wU yX9_copyFrom cX9_copyFrom 2 none) B.pre w (List.mem_cons_of_mem _ h)
  have hown : s.vm.findClass RX9 = some m.cls := findClass_of_methodNamed B.named
  have hlocks := B.notSynchronized
  have hD := pl_in hD0
  have hS : va_S (fun q => q ∈ L) s.heap s.heap [] := va_S.rf
  have hl := lv_entry ([.ref o0, .ref o1]) (n := 2) (Nat.le_of_ble_eq_true rfl)
  rw [lg_entry_eq]
  generalize (lg_sl ([.ref o0, .ref o1]) ++ List.replicate (2 - (lg_sl ([.ref o0, .ref o1])).length) Slot.unset).toArray = ls at hl ⊢
  have hl : lv_has ls 2 [(0, .ref o0), (1, .ref o1)] := hl
  have hfr0 : ∀ b, kd b ≠ 9 → kd b ≠ 504 → kd b ≠ 505 → f b = f b := fun _ _ _ _ => rfl
  refine lv_aload_n hx hb dX9_copyFrom_0 rfl (lv_at hl 1 rfl) ?_
  obtain ⟨a_2, a_3, v_4, hfo_1, ⟨ma_2, ka_2⟩, ⟨ma_3, ka_3⟩, bv_4⟩ := un_109 (hG _ mo1) ko1
  refine tk_getP (D := (dC, dI)) (ci := 9) (v := .ref a_2) (C := RX9) (T := TX9) (N := 3) hx hb hU inlX9 hown hK hP mo1 hfo_1 rfl 0 (by decide) (hU _ wd_95) (fun _ h9 => h9) rfl dX9_copyFrom_1 ?_
  obtain ⟨g_6, hfo_5, hbg_6⟩ := un_545 (hG _ ma_2) ka_2
  refine tk_alenP (v := 96) hx hb hK hP 0 ma_2 hfo_5 rfl rfl dX9_copyFrom_4 ?_
  refine lv_aload_n hx hb dX9_copyFrom_5 rfl (lv_at hl 0 rfl) ?_
  obtain ⟨a_8, a_9, v_10, hfo_7, ⟨ma_8, ka_8⟩, ⟨ma_9, ka_9⟩, bv_10⟩ := un_9 (hG _ mo0) ko0
  refine tk_getP (D := (dC, dI)) (ci := 9) (v := .ref a_8) (C := RX9) (T := TX9) (N := 3) hx hb hU inlX9 hown hK hP mo0 hfo_7 rfl 0 (by decide) (hU _ wd_95) (fun _ h9 => h9) rfl dX9_copyFrom_6 ?_
  obtain ⟨g_12, hfo_11, hbg_12⟩ := un_504 (hG _ ma_8) ka_8
  refine tk_alenP (v := 96) hx hb hK hP 0 ma_8 hfo_11 rfl rfl dX9_copyFrom_9 ?_
  refine lv_icmp_ne (tgt := 57) hx hb dX9_copyFrom_10 (by decide) (fun c9 => absurd (by decide) c9) (fun _ => ?_)
  refine lv_aload_n hx hb dX9_copyFrom_13 rfl (lv_at hl 1 rfl) ?_
  refine tk_getP (D := (dC, dI)) (ci := 9) (v := .ref a_2) (C := RX9) (T := TX9) (N := 3) hx hb hU inlX9 hown hK hP mo1 hfo_1 rfl 0 (by decide) (hU _ wd_95) (fun _ h9 => h9) rfl dX9_copyFrom_14 ?_
  refine lv_iconst (v := 0) hx hb dX9_copyFrom_17 (by decide) ?_
  refine lv_aload_n hx hb dX9_copyFrom_18 rfl (lv_at hl 0 rfl) ?_
  refine tk_getP (D := (dC, dI)) (ci := 9) (v := .ref a_8) (C := RX9) (T := TX9) (N := 3) hx hb hU inlX9 hown hK hP mo0 hfo_7 rfl 0 (by decide) (hU _ wd_95) (fun _ h9 => h9) rfl dX9_copyFrom_19 ?_
  refine lv_iconst (v := 0) hx hb dX9_copyFrom_22 (by decide) ?_
  refine lv_aload_n hx hb dX9_copyFrom_23 rfl (lv_at hl 0 rfl) ?_
  refine tk_getP (D := (dC, dI)) (ci := 9) (v := .ref a_8) (C := RX9) (T := TX9) (N := 3) hx hb hU inlX9 hown hK hP mo0 hfo_7 rfl 0 (by decide) (hU _ wd_95) (fun _ h9 => h9) rfl dX9_copyFrom_24 ?_
  refine tk_alenP (v := 96) hx hb hK hP 0 ma_8 hfo_11 rfl rfl dX9_copyFrom_27 ?_
  refine tk_copyP hx hb (by rw [hml]; exact hl.1.symm) hown (hU _ wd_548) (hU _ wd_253) (hU _ wd_254) (hU _ wd_255) hK hP hD hS 0 ma_2 ma_8 hfo_5 hfo_11 rfl (by decide) (by decide) (by decide) (by decide) (by decide) (Nat.le_of_ble_eq_true rfl) (Nat.le_of_ble_eq_true rfl) dX9_copyFrom_28 (fun H locs hP hD hS => ?_)
  obtain ⟨f_14, ef_14⟩ : ∃ y : Nat → va_E, y = va_up f a_8 (.inl (cI, 96, .inl (va_cpy g_6 g_12 (Int32.toNatClampNeg 0) (Int32.toNatClampNeg 0) (Int32.toNatClampNeg 96)))) := ⟨_, rfl⟩
  have hP : va_P (dC, dI) vwCl (va_pl L f_14) H := by rw [ef_14]; exact hP
  have hD : va_D (fun q => q ∈ L) (va_pl L f_14) := by rw [ef_14]; exact hD
  have hG : GI (okc cI cL cZ cR cG cH L kd) kd L f_14 := by rw [ef_14]; exact hG.set a_8 (mk_504 ka_8 ⟨_, rfl, okI_cpy (fun j => by have := hbg_6 j; constructor <;> omega) hbg_12 _ _ _⟩)
  have hfo_15 : f_14 o1 = .inr (9, [.ref a_2, .ref a_3, .int v_4]) := by rw [ef_14, up_ne (kd_ne ka_8 ko1 (by decide))]; exact hfo_1
  have hfo_16 : f_14 a_2 = .inl (cI, 96, .inl g_6) := by rw [ef_14, up_ne (kd_ne ka_8 ka_2 (by decide))]; exact hfo_5
  have hfo_17 : f_14 o0 = .inr (9, [.ref a_8, .ref a_9, .int v_10]) := by rw [ef_14, up_ne (kd_ne ka_8 ko0 (by decide))]; exact hfo_7
  have hfr0 : ∀ b, kd b ≠ 9 → kd b ≠ 504 → kd b ≠ 505 → f_14 b = f b := fun b q9 q504 q505 => (congrFun ef_14 b).trans ((up_ne (fun e9 => q504 (by rw [e9]; exact ka_8))).trans (hfr0 b q9 q504 q505))
  have hfo_18 : f_14 a_8 = .inl (cI, 96, .inl (va_cpy g_6 g_12 (Int32.toNatClampNeg 0) (Int32.toNatClampNeg 0) (Int32.toNatClampNeg 96))) := by rw [ef_14]; exact up_self
  refine lv_aload_n hx hb dX9_copyFrom_31 rfl (lv_at hl 1 rfl) ?_
  refine tk_getP (D := (dC, dI)) (ci := 9) (v := .ref a_3) (C := RX9) (T := TX9) (N := 3) hx hb hU inlX9 hown hK hP mo1 hfo_15 rfl 1 (by decide) (hU _ wd_96) (fun _ h9 => h9) rfl dX9_copyFrom_32 ?_
  refine lv_iconst (v := 0) hx hb dX9_copyFrom_35 (by decide) ?_
  refine lv_aload_n hx hb dX9_copyFrom_36 rfl (lv_at hl 0 rfl) ?_
  refine tk_getP (D := (dC, dI)) (ci := 9) (v := .ref a_9) (C := RX9) (T := TX9) (N := 3) hx hb hU inlX9 hown hK hP mo0 hfo_17 rfl 1 (by decide) (hU _ wd_96) (fun _ h9 => h9) rfl dX9_copyFrom_37 ?_
  refine lv_iconst (v := 0) hx hb dX9_copyFrom_40 (by decide) ?_
  refine lv_aload_n hx hb dX9_copyFrom_41 rfl (lv_at hl 0 rfl) ?_
  refine tk_getP (D := (dC, dI)) (ci := 9) (v := .ref a_9) (C := RX9) (T := TX9) (N := 3) hx hb hU inlX9 hown hK hP mo0 hfo_17 rfl 1 (by decide) (hU _ wd_96) (fun _ h9 => h9) rfl dX9_copyFrom_42 ?_
  obtain ⟨g_20, hfo_19, hbg_20⟩ := un_505 (hG _ ma_9) ka_9
  refine tk_alenP (v := 12) hx hb hK hP 0 ma_9 hfo_19 rfl rfl dX9_copyFrom_45 ?_
  obtain ⟨g_22, hfo_21, hbg_22⟩ := un_546 (hG _ ma_3) ka_3
  refine tk_copyP hx hb (by rw [hml]; exact hl.1.symm) hown (hU _ wd_548) (hU _ wd_253) (hU _ wd_254) (hU _ wd_255) hK hP hD hS 0 ma_3 ma_9 hfo_21 hfo_19 rfl (by decide) (by decide) (by decide) (by decide) (by decide) (Nat.le_of_ble_eq_true rfl) (Nat.le_of_ble_eq_true rfl) dX9_copyFrom_46 (fun H locs hP hD hS => ?_)
  obtain ⟨f_24, ef_24⟩ : ∃ y : Nat → va_E, y = va_up f_14 a_9 (.inl (cI, 12, .inl (va_cpy g_22 g_20 (Int32.toNatClampNeg 0) (Int32.toNatClampNeg 0) (Int32.toNatClampNeg 12)))) := ⟨_, rfl⟩
  have hP : va_P (dC, dI) vwCl (va_pl L f_24) H := by rw [ef_24]; exact hP
  have hD : va_D (fun q => q ∈ L) (va_pl L f_24) := by rw [ef_24]; exact hD
  have hG : GI (okc cI cL cZ cR cG cH L kd) kd L f_24 := by rw [ef_24]; exact hG.set a_9 (mk_505 ka_9 ⟨_, rfl, okI_cpy (fun j => by have := hbg_22 j; constructor <;> omega) hbg_20 _ _ _⟩)
  have hfo_25 : f_24 o1 = .inr (9, [.ref a_2, .ref a_3, .int v_4]) := by rw [ef_24, up_ne (kd_ne ka_9 ko1 (by decide))]; exact hfo_15
  have hfo_26 : f_24 a_2 = .inl (cI, 96, .inl g_6) := by rw [ef_24, up_ne (kd_ne ka_9 ka_2 (by decide))]; exact hfo_16
  have hfo_27 : f_24 o0 = .inr (9, [.ref a_8, .ref a_9, .int v_10]) := by rw [ef_24, up_ne (kd_ne ka_9 ko0 (by decide))]; exact hfo_17
  have hfo_28 : f_24 a_3 = .inl (cI, 12, .inl g_22) := by rw [ef_24, up_ne (kd_ne ka_9 ka_3 (by decide))]; exact hfo_21
  have hfr0 : ∀ b, kd b ≠ 9 → kd b ≠ 504 → kd b ≠ 505 → f_24 b = f b := fun b q9 q504 q505 => (congrFun ef_24 b).trans ((up_ne (fun e9 => q505 (by rw [e9]; exact ka_9))).trans (hfr0 b q9 q504 q505))
  have hfo_29 : f_24 a_9 = .inl (cI, 12, .inl (va_cpy g_22 g_20 (Int32.toNatClampNeg 0) (Int32.toNatClampNeg 0) (Int32.toNatClampNeg 12))) := by rw [ef_24]; exact up_self
  refine lv_aload_n hx hb dX9_copyFrom_49 rfl (lv_at hl 0 rfl) ?_
  refine lv_aload_n hx hb dX9_copyFrom_50 rfl (lv_at hl 1 rfl) ?_
  refine tk_getP (D := (dC, dI)) (ci := 9) (v := .int v_4) (C := RX9) (T := TX9) (N := 3) hx hb hU inlX9 hown hK hP mo1 hfo_25 rfl 2 (by decide) (hU _ wd_273) (fun _ h9 => h9) rfl dX9_copyFrom_51 ?_
  refine tk_putP (D := (dC, dI)) (ci := 9) (v := .int v_4) (ty := .int) (C := RX9) (T := TX9) (N := 3) hx hb hU inlX9 tyX9 tyX9_ok nmX9 hown hK hP hD hS mo0 hfo_27 rfl 2 (by decide) (hU _ wd_273) (fun _ h9 => h9) rfl (by decide +kernel) rfl rfl (Nat.le_of_ble_eq_true rfl) dX9_copyFrom_54 (fun H locs hP hD hS => ?_)
  obtain ⟨f_31, ef_31⟩ : ∃ y : Nat → va_E, y = va_up f_24 o0 (.inr (9, [.ref a_8, .ref a_9, .int v_4])) := ⟨_, rfl⟩
  have hP : va_P (dC, dI) vwCl (va_pl L f_31) H := by rw [ef_31]; exact hP
  have hD : va_D (fun q => q ∈ L) (va_pl L f_31) := by rw [ef_31]; exact hD
  have hG : GI (okc cI cL cZ cR cG cH L kd) kd L f_31 := by rw [ef_31]; exact hG.set o0 (mk_9 ko0 ⟨a_8, a_9, v_4, rfl, ⟨ma_8, ka_8⟩, ⟨ma_9, ka_9⟩, (by constructor <;> omega)⟩)
  have hfo_32 : f_31 o1 = .inr (9, [.ref a_2, .ref a_3, .int v_4]) := by rw [ef_31, up_ne (kd_ne ko0 ko1 (by decide))]; exact hfo_25
  have hfo_33 : f_31 a_2 = .inl (cI, 96, .inl g_6) := by rw [ef_31, up_ne (kd_ne ko0 ka_2 (by decide))]; exact hfo_26
  have hfo_34 : f_31 a_3 = .inl (cI, 12, .inl g_22) := by rw [ef_31, up_ne (kd_ne ko0 ka_3 (by decide))]; exact hfo_28
  have hfr0 : ∀ b, kd b ≠ 9 → kd b ≠ 504 → kd b ≠ 505 → f_31 b = f b := fun b q9 q504 q505 => (congrFun ef_31 b).trans ((up_ne (fun e9 => q9 (by rw [e9]; exact ko0))).trans (hfr0 b q9 q504 q505))
  have hfo_35 : f_31 o0 = .inr (9, [.ref a_8, .ref a_9, .int v_4]) := by rw [ef_31]; exact up_self
  exact W.vret hx hb hr (fun t ht hW => ⟨⟨f_31, rfl, ⟨hG, hfr0⟩, by rw [ht]; exact hP, va_K.moved hW.alike hK, pl_in hD⟩, hS.F ht⟩) hS.2.2 dX9_copyFrom_57
set_option maxHeartbeats 8000000 in
set_option maxRecDepth 100000 in
theorem s_X9_copyFrom_k9_k9 (l : Launch) (D : va_G) (cI cL cZ cR cG cH : ClassId) (Z : zT) (kd : Nat → Nat) (L : List Nat) (f : Nat → va_E) (hG : GI (okc cI cL cZ cR cG cH L kd) kd L f) (o0 : Nat) (mo0 : o0 ∈ L) (ko0 : kd o0 = 9) (o1 : Nat) (mo1 : o1 ∈ L) (ko1 : kd o1 = 9) : mPV l D cI cL cZ cR cG cH Z yX9_copyFrom cX9_copyFrom 2 none 1 40 [.ref o0, .ref o1] L f (fun (f9 : Nat → va_E) => GI (okc cI cL cZ cR cG cH L kd) kd L f9 ∧ (∀ b, kd b ≠ 9 → kd b ≠ 504 → kd b ≠ 505 → f9 b = f b)) := by
  obtain ⟨dC, dI⟩ := D
  refine Met.ofW (cc := cX9_copyFrom) (maxL := 2) (ret := none) (by decide) rfl ?_
  intro p e s m args below meth c s₁ B hml hv
  obtain ⟨rfl, hP, hK, hD0, hN, hZ⟩ := hv
  have hx := B.exec
  have hb := B.bytes
  have hr := B.returns
  have hU : ∀ w ∈ wsU, w.before _ s = true := fun w h => atoms_spec (ws := wU yX9_copyFrom cX9_copyFrom 2 none) B.pre w (List.mem_cons_of_mem _ h)
  have hown : s.vm.findClass RX9 = some m.cls := findClass_of_methodNamed B.named
  have hlocks := B.notSynchronized
  have hD := pl_in hD0
  have hS : va_S (fun q => q ∈ L) s.heap s.heap [] := va_S.rf
  have hl := lv_entry ([.ref o0, .ref o1]) (n := 2) (Nat.le_of_ble_eq_true rfl)
  rw [lg_entry_eq]
  generalize (lg_sl ([.ref o0, .ref o1]) ++ List.replicate (2 - (lg_sl ([.ref o0, .ref o1])).length) Slot.unset).toArray = ls at hl ⊢
  have hl : lv_has ls 2 [(0, .ref o0), (1, .ref o1)] := hl
  have hfr0 : ∀ b, kd b ≠ 9 → kd b ≠ 504 → kd b ≠ 505 → f b = f b := fun _ _ _ _ => rfl
  refine lv_aload_n hx hb dX9_copyFrom_0 rfl (lv_at hl 1 rfl) ?_
  obtain ⟨a_2, a_3, v_4, hfo_1, ⟨ma_2, ka_2⟩, ⟨ma_3, ka_3⟩, bv_4⟩ := un_9 (hG _ mo1) ko1
  refine tk_getP (D := (dC, dI)) (ci := 9) (v := .ref a_2) (C := RX9) (T := TX9) (N := 3) hx hb hU inlX9 hown hK hP mo1 hfo_1 rfl 0 (by decide) (hU _ wd_95) (fun _ h9 => h9) rfl dX9_copyFrom_1 ?_
  obtain ⟨g_6, hfo_5, hbg_6⟩ := un_504 (hG _ ma_2) ka_2
  refine tk_alenP (v := 96) hx hb hK hP 0 ma_2 hfo_5 rfl rfl dX9_copyFrom_4 ?_
  refine lv_aload_n hx hb dX9_copyFrom_5 rfl (lv_at hl 0 rfl) ?_
  obtain ⟨a_8, a_9, v_10, hfo_7, ⟨ma_8, ka_8⟩, ⟨ma_9, ka_9⟩, bv_10⟩ := un_9 (hG _ mo0) ko0
  refine tk_getP (D := (dC, dI)) (ci := 9) (v := .ref a_8) (C := RX9) (T := TX9) (N := 3) hx hb hU inlX9 hown hK hP mo0 hfo_7 rfl 0 (by decide) (hU _ wd_95) (fun _ h9 => h9) rfl dX9_copyFrom_6 ?_
  obtain ⟨g_12, hfo_11, hbg_12⟩ := un_504 (hG _ ma_8) ka_8
  refine tk_alenP (v := 96) hx hb hK hP 0 ma_8 hfo_11 rfl rfl dX9_copyFrom_9 ?_
  refine lv_icmp_ne (tgt := 57) hx hb dX9_copyFrom_10 (by decide) (fun c9 => absurd (by decide) c9) (fun _ => ?_)
  refine lv_aload_n hx hb dX9_copyFrom_13 rfl (lv_at hl 1 rfl) ?_
  refine tk_getP (D := (dC, dI)) (ci := 9) (v := .ref a_2) (C := RX9) (T := TX9) (N := 3) hx hb hU inlX9 hown hK hP mo1 hfo_1 rfl 0 (by decide) (hU _ wd_95) (fun _ h9 => h9) rfl dX9_copyFrom_14 ?_
  refine lv_iconst (v := 0) hx hb dX9_copyFrom_17 (by decide) ?_
  refine lv_aload_n hx hb dX9_copyFrom_18 rfl (lv_at hl 0 rfl) ?_
  refine tk_getP (D := (dC, dI)) (ci := 9) (v := .ref a_8) (C := RX9) (T := TX9) (N := 3) hx hb hU inlX9 hown hK hP mo0 hfo_7 rfl 0 (by decide) (hU _ wd_95) (fun _ h9 => h9) rfl dX9_copyFrom_19 ?_
  refine lv_iconst (v := 0) hx hb dX9_copyFrom_22 (by decide) ?_
  refine lv_aload_n hx hb dX9_copyFrom_23 rfl (lv_at hl 0 rfl) ?_
  refine tk_getP (D := (dC, dI)) (ci := 9) (v := .ref a_8) (C := RX9) (T := TX9) (N := 3) hx hb hU inlX9 hown hK hP mo0 hfo_7 rfl 0 (by decide) (hU _ wd_95) (fun _ h9 => h9) rfl dX9_copyFrom_24 ?_
  refine tk_alenP (v := 96) hx hb hK hP 0 ma_8 hfo_11 rfl rfl dX9_copyFrom_27 ?_
  refine tk_copyP hx hb (by rw [hml]; exact hl.1.symm) hown (hU _ wd_548) (hU _ wd_253) (hU _ wd_254) (hU _ wd_255) hK hP hD hS 0 ma_2 ma_8 hfo_5 hfo_11 rfl (by decide) (by decide) (by decide) (by decide) (by decide) (Nat.le_of_ble_eq_true rfl) (Nat.le_of_ble_eq_true rfl) dX9_copyFrom_28 (fun H locs hP hD hS => ?_)
  obtain ⟨f_14, ef_14⟩ : ∃ y : Nat → va_E, y = va_up f a_8 (.inl (cI, 96, .inl (va_cpy g_6 g_12 (Int32.toNatClampNeg 0) (Int32.toNatClampNeg 0) (Int32.toNatClampNeg 96)))) := ⟨_, rfl⟩
  have hP : va_P (dC, dI) vwCl (va_pl L f_14) H := by rw [ef_14]; exact hP
  have hD : va_D (fun q => q ∈ L) (va_pl L f_14) := by rw [ef_14]; exact hD
  have hG : GI (okc cI cL cZ cR cG cH L kd) kd L f_14 := by rw [ef_14]; exact hG.set a_8 (mk_504 ka_8 ⟨_, rfl, okI_cpy (fun j => by have := hbg_6 j; constructor <;> omega) hbg_12 _ _ _⟩)
  have hfo_15 : f_14 o1 = .inr (9, [.ref a_2, .ref a_3, .int v_4]) := by rw [ef_14, up_ne (kd_ne ka_8 ko1 (by decide))]; exact hfo_1
  have hfo_16 : f_14 o0 = .inr (9, [.ref a_8, .ref a_9, .int v_10]) := by rw [ef_14, up_ne (kd_ne ka_8 ko0 (by decide))]; exact hfo_7
  have hfr0 : ∀ b, kd b ≠ 9 → kd b ≠ 504 → kd b ≠ 505 → f_14 b = f b := fun b q9 q504 q505 => (congrFun ef_14 b).trans ((up_ne (fun e9 => q504 (by rw [e9]; exact ka_8))).trans (hfr0 b q9 q504 q505))
  have hfo_17 : f_14 a_8 = .inl (cI, 96, .inl (va_cpy g_6 g_12 (Int32.toNatClampNeg 0) (Int32.toNatClampNeg 0) (Int32.toNatClampNeg 96))) := by rw [ef_14]; exact up_self
  refine lv_aload_n hx hb dX9_copyFrom_31 rfl (lv_at hl 1 rfl) ?_
  refine tk_getP (D := (dC, dI)) (ci := 9) (v := .ref a_3) (C := RX9) (T := TX9) (N := 3) hx hb hU inlX9 hown hK hP mo1 hfo_15 rfl 1 (by decide) (hU _ wd_96) (fun _ h9 => h9) rfl dX9_copyFrom_32 ?_
  refine lv_iconst (v := 0) hx hb dX9_copyFrom_35 (by decide) ?_
  refine lv_aload_n hx hb dX9_copyFrom_36 rfl (lv_at hl 0 rfl) ?_
  refine tk_getP (D := (dC, dI)) (ci := 9) (v := .ref a_9) (C := RX9) (T := TX9) (N := 3) hx hb hU inlX9 hown hK hP mo0 hfo_16 rfl 1 (by decide) (hU _ wd_96) (fun _ h9 => h9) rfl dX9_copyFrom_37 ?_
  refine lv_iconst (v := 0) hx hb dX9_copyFrom_40 (by decide) ?_
  refine lv_aload_n hx hb dX9_copyFrom_41 rfl (lv_at hl 0 rfl) ?_
  refine tk_getP (D := (dC, dI)) (ci := 9) (v := .ref a_9) (C := RX9) (T := TX9) (N := 3) hx hb hU inlX9 hown hK hP mo0 hfo_16 rfl 1 (by decide) (hU _ wd_96) (fun _ h9 => h9) rfl dX9_copyFrom_42 ?_
  obtain ⟨g_19, hfo_18, hbg_19⟩ := un_505 (hG _ ma_9) ka_9
  refine tk_alenP (v := 12) hx hb hK hP 0 ma_9 hfo_18 rfl rfl dX9_copyFrom_45 ?_
  obtain ⟨g_21, hfo_20, hbg_21⟩ := un_505 (hG _ ma_3) ka_3
  refine tk_copyP hx hb (by rw [hml]; exact hl.1.symm) hown (hU _ wd_548) (hU _ wd_253) (hU _ wd_254) (hU _ wd_255) hK hP hD hS 0 ma_3 ma_9 hfo_20 hfo_18 rfl (by decide) (by decide) (by decide) (by decide) (by decide) (Nat.le_of_ble_eq_true rfl) (Nat.le_of_ble_eq_true rfl) dX9_copyFrom_46 (fun H locs hP hD hS => ?_)
  obtain ⟨f_23, ef_23⟩ : ∃ y : Nat → va_E, y = va_up f_14 a_9 (.inl (cI, 12, .inl (va_cpy g_21 g_19 (Int32.toNatClampNeg 0) (Int32.toNatClampNeg 0) (Int32.toNatClampNeg 12)))) := ⟨_, rfl⟩
  have hP : va_P (dC, dI) vwCl (va_pl L f_23) H := by rw [ef_23]; exact hP
  have hD : va_D (fun q => q ∈ L) (va_pl L f_23) := by rw [ef_23]; exact hD
  have hG : GI (okc cI cL cZ cR cG cH L kd) kd L f_23 := by rw [ef_23]; exact hG.set a_9 (mk_505 ka_9 ⟨_, rfl, okI_cpy (fun j => by have := hbg_21 j; constructor <;> omega) hbg_19 _ _ _⟩)
  have hfo_24 : f_23 o1 = .inr (9, [.ref a_2, .ref a_3, .int v_4]) := by rw [ef_23, up_ne (kd_ne ka_9 ko1 (by decide))]; exact hfo_15
  have hfo_25 : f_23 o0 = .inr (9, [.ref a_8, .ref a_9, .int v_10]) := by rw [ef_23, up_ne (kd_ne ka_9 ko0 (by decide))]; exact hfo_16
  have hfr0 : ∀ b, kd b ≠ 9 → kd b ≠ 504 → kd b ≠ 505 → f_23 b = f b := fun b q9 q504 q505 => (congrFun ef_23 b).trans ((up_ne (fun e9 => q505 (by rw [e9]; exact ka_9))).trans (hfr0 b q9 q504 q505))
  have hfo_26 : f_23 a_9 = .inl (cI, 12, .inl (va_cpy g_21 g_19 (Int32.toNatClampNeg 0) (Int32.toNatClampNeg 0) (Int32.toNatClampNeg 12))) := by rw [ef_23]; exact up_self
  refine lv_aload_n hx hb dX9_copyFrom_49 rfl (lv_at hl 0 rfl) ?_
  refine lv_aload_n hx hb dX9_copyFrom_50 rfl (lv_at hl 1 rfl) ?_
  refine tk_getP (D := (dC, dI)) (ci := 9) (v := .int v_4) (C := RX9) (T := TX9) (N := 3) hx hb hU inlX9 hown hK hP mo1 hfo_24 rfl 2 (by decide) (hU _ wd_273) (fun _ h9 => h9) rfl dX9_copyFrom_51 ?_
  refine tk_putP (D := (dC, dI)) (ci := 9) (v := .int v_4) (ty := .int) (C := RX9) (T := TX9) (N := 3) hx hb hU inlX9 tyX9 tyX9_ok nmX9 hown hK hP hD hS mo0 hfo_25 rfl 2 (by decide) (hU _ wd_273) (fun _ h9 => h9) rfl (by decide +kernel) rfl rfl (Nat.le_of_ble_eq_true rfl) dX9_copyFrom_54 (fun H locs hP hD hS => ?_)
  obtain ⟨f_28, ef_28⟩ : ∃ y : Nat → va_E, y = va_up f_23 o0 (.inr (9, [.ref a_8, .ref a_9, .int v_4])) := ⟨_, rfl⟩
  have hP : va_P (dC, dI) vwCl (va_pl L f_28) H := by rw [ef_28]; exact hP
  have hD : va_D (fun q => q ∈ L) (va_pl L f_28) := by rw [ef_28]; exact hD
  have hG : GI (okc cI cL cZ cR cG cH L kd) kd L f_28 := by rw [ef_28]; exact hG.set o0 (mk_9 ko0 ⟨a_8, a_9, v_4, rfl, ⟨ma_8, ka_8⟩, ⟨ma_9, ka_9⟩, (by constructor <;> omega)⟩)
  have hfr0 : ∀ b, kd b ≠ 9 → kd b ≠ 504 → kd b ≠ 505 → f_28 b = f b := fun b q9 q504 q505 => (congrFun ef_28 b).trans ((up_ne (fun e9 => q9 (by rw [e9]; exact ko0))).trans (hfr0 b q9 q504 q505))
  have hfo_29 : f_28 o0 = .inr (9, [.ref a_8, .ref a_9, .int v_4]) := by rw [ef_28]; exact up_self
  exact W.vret hx hb hr (fun t ht hW => ⟨⟨f_28, rfl, ⟨hG, hfr0⟩, by rw [ht]; exact hP, va_K.moved hW.alike hK, pl_in hD⟩, hS.F ht⟩) hS.2.2 dX9_copyFrom_57
